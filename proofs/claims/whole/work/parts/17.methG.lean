theorem fX5_count_7 : gl_fl wsX5_count RX5 7 5 0 := ⟨RX5, TX5, 5, RX5, rfl, by decide, by decide +kernel, by decide +kernel, rfl⟩
theorem fX5_count_22 : gl_fl wsX5_count RX5 22 5 4 := ⟨RX5, TX5, 5, RX5, rfl, by decide, by decide +kernel, by decide +kernel, rfl⟩
theorem fX5_thereIn_7 : gl_fl wsX5_thereIn RX5 7 5 0 := ⟨RX5, TX5, 5, RX5, rfl, by decide, by decide +kernel, by decide +kernel, rfl⟩
theorem fX5_thereIn_16 : gl_fl wsX5_thereIn RX5 16 5 2 := ⟨RX5, TX5, 5, RX5, rfl, by decide, by decide +kernel, by decide +kernel, rfl⟩
theorem fX5_waits_7 : gl_fl wsX5_waits RX5 7 5 0 := ⟨RX5, TX5, 5, RX5, rfl, by decide, by decide +kernel, by decide +kernel, rfl⟩
theorem fX5_worstCar_7 : gl_fl wsX5_worstCar RX5 7 5 0 := ⟨RX5, TX5, 5, RX5, rfl, by decide, by decide +kernel, by decide +kernel, rfl⟩
theorem fX5_worstCar_19 : gl_fl wsX5_worstCar RX5 19 5 3 := ⟨RX5, TX5, 5, RX5, rfl, by decide, by decide +kernel, by decide +kernel, rfl⟩
theorem fX5_group_7 : gl_fl wsX5_group RX5 7 5 0 := ⟨RX5, TX5, 5, RX5, rfl, by decide, by decide +kernel, by decide +kernel, rfl⟩
set_option maxRecDepth 100000 in
set_option maxHeartbeats 4000000 in
theorem ctX5_count (F : gl_F) {n m t : Nat} {M : Nat → Int32} (w : sp_W n m t M) (ht31 : t < 2000000) {p : Nat} (hp : M 378 = nI p) (x : Int32) : gl_Ct F LM yX5_count wsX5_count rmX5_count [.ref (gl_r F 0), .int x] M (some (.int (pa_tab 13 (pc_count M n m t p) x))) (M) := by
  refine gl_met (cc := cX5_count) (maxL := 2) (ret := some .int) [some (.ref (gl_r F 0)), some (.int x)] (plainFor_of_name (by decide)) rfl ok_LM (by simp [Value.category]) (Nat.le_of_ble_eq_true rfl) rfl (fun V hV C => ?_)
  subst hV
  obtain ⟨hn40, hm5, hn, hm, ht, hcar, hcal⟩ := id w
  refine gl_iload_1 (pc := 0) C dX5_count_0 ?_
  rcases gl_cases x 13 (by omega) with hsw | ⟨i1, hi1, ex1⟩
  · skip
    refine gl_tableOut (pc := 1) 144 C dX5_count_1 hsw (by decide) ?_
    refine gl_iconst (pc := 144) (-1) C dX5_count_144 (by decide) ?_
    exact gl_iret (pc := 145) C dX5_count_145 ((pa_tab_out hsw).symm) (rfl)
  · subst ex1
    rcases (show i1 = 0 ∨ i1 = 1 ∨ i1 = 2 ∨ i1 = 3 ∨ i1 = 4 ∨ i1 = 5 ∨ i1 = 6 ∨ i1 = 7 ∨ i1 = 8 ∨ i1 = 9 ∨ i1 = 10 ∨ i1 = 11 ∨ i1 = 12 ∨ i1 = 13 by omega) with rfl | rfl | rfl | rfl | rfl | rfl | rfl | rfl | rfl | rfl | rfl | rfl | rfl | rfl
    · skip
      refine gl_tableIn (pc := 1) (off := 71) 72 C dX5_count_1 (by decide) (by decide) (by decide) (by decide) ?_
      refine gl_aload_0 (pc := 72) C dX5_count_72 ?_
      refine gl_getR (pc := 73) C dX5_count_73 fX5_count_7 rfl rfl ?_
      refine gl_iconst (pc := 76) (nI 0) C dX5_count_76 (by decide) ?_
      refine gl_iald (pc := 77) _ C dX5_count_77 rfl rfl (by omega) ?_
      refine gl_top ht ?_
      exact gl_iret (pc := 78) C dX5_count_78 (by refine Eq.symm (pa_tab_in ?_ ?_) <;> omega) (rfl)
    · skip
      refine gl_tableIn (pc := 1) (off := 78) 79 C dX5_count_1 (by decide) (by decide) (by decide) (by decide) ?_
      refine gl_aload_0 (pc := 79) C dX5_count_79 ?_
      refine gl_callVi (pc := 80) (ctX5_hour V.1 w (by omega)) C dX5_count_80 gX5_count_X5_hour rfl hdX5_hour ⟨rfl, rfl, Nat.le_of_ble_eq_true rfl, Nat.le_of_ble_eq_true rfl⟩ rfl (Nat.le_of_ble_eq_true rfl) rfl rfl rfl ?_
      exact gl_iret (pc := 83) C dX5_count_83 (by refine Eq.symm (pa_tab_in ?_ ?_) <;> omega) (rfl)
    · skip
      refine gl_tableIn (pc := 1) (off := 83) 84 C dX5_count_1 (by decide) (by decide) (by decide) (by decide) ?_
      refine gl_aload_0 (pc := 84) C dX5_count_84 ?_
      refine gl_getR (pc := 85) C dX5_count_85 fX5_count_7 rfl rfl ?_
      refine gl_iconst (pc := 88) (nI 1) C dX5_count_88 (by decide) ?_
      refine gl_iald (pc := 89) _ C dX5_count_89 rfl rfl (by omega) ?_
      refine gl_top hm ?_
      exact gl_iret (pc := 90) C dX5_count_90 (by refine Eq.symm (pa_tab_in ?_ ?_) <;> omega) (rfl)
    · skip
      refine gl_tableIn (pc := 1) (off := 90) 91 C dX5_count_1 (by decide) (by decide) (by decide) (by decide) ?_
      refine gl_aload_0 (pc := 91) C dX5_count_91 ?_
      refine gl_getR (pc := 92) C dX5_count_92 fX5_count_7 rfl rfl ?_
      refine gl_iconst (pc := 95) (nI 2) C dX5_count_95 (by decide) ?_
      refine gl_iald (pc := 96) _ C dX5_count_96 rfl rfl (by omega) ?_
      refine gl_top hn ?_
      exact gl_iret (pc := 97) C dX5_count_97 (by refine Eq.symm (pa_tab_in ?_ ?_) <;> omega) (rfl)
    · skip
      refine gl_tableIn (pc := 1) (off := 97) 98 C dX5_count_1 (by decide) (by decide) (by decide) (by decide) ?_
      refine gl_aload_0 (pc := 98) C dX5_count_98 ?_
      refine gl_iload_1 (pc := 99) C dX5_count_99 ?_
      refine gl_iconst (pc := 100) (nI 4) C dX5_count_100 (by decide) ?_
      refine gl_isub (pc := 101) C dX5_count_101 ?_
      refine gl_top (pk_sub (by omega)) ?_
      refine gl_callVi (pc := 102) (ctX5_inAll V.1 hn40 hn _) C dX5_count_102 gX5_count_X5_inAll rfl hdX5_inAll ⟨rfl, rfl, Nat.le_of_ble_eq_true rfl, Nat.le_of_ble_eq_true rfl⟩ rfl (Nat.le_of_ble_eq_true rfl) rfl rfl rfl ?_
      exact gl_iret (pc := 105) C dX5_count_105 (by refine Eq.symm (pa_tab_in ?_ ?_) <;> omega) (rfl)
    · skip
      refine gl_tableIn (pc := 1) (off := 97) 98 C dX5_count_1 (by decide) (by decide) (by decide) (by decide) ?_
      refine gl_aload_0 (pc := 98) C dX5_count_98 ?_
      refine gl_iload_1 (pc := 99) C dX5_count_99 ?_
      refine gl_iconst (pc := 100) (nI 4) C dX5_count_100 (by decide) ?_
      refine gl_isub (pc := 101) C dX5_count_101 ?_
      refine gl_top (pk_sub (by omega)) ?_
      refine gl_callVi (pc := 102) (ctX5_inAll V.1 hn40 hn _) C dX5_count_102 gX5_count_X5_inAll rfl hdX5_inAll ⟨rfl, rfl, Nat.le_of_ble_eq_true rfl, Nat.le_of_ble_eq_true rfl⟩ rfl (Nat.le_of_ble_eq_true rfl) rfl rfl rfl ?_
      exact gl_iret (pc := 105) C dX5_count_105 (by refine Eq.symm (pa_tab_in ?_ ?_) <;> omega) (rfl)
    · skip
      refine gl_tableIn (pc := 1) (off := 97) 98 C dX5_count_1 (by decide) (by decide) (by decide) (by decide) ?_
      refine gl_aload_0 (pc := 98) C dX5_count_98 ?_
      refine gl_iload_1 (pc := 99) C dX5_count_99 ?_
      refine gl_iconst (pc := 100) (nI 4) C dX5_count_100 (by decide) ?_
      refine gl_isub (pc := 101) C dX5_count_101 ?_
      refine gl_top (pk_sub (by omega)) ?_
      refine gl_callVi (pc := 102) (ctX5_inAll V.1 hn40 hn _) C dX5_count_102 gX5_count_X5_inAll rfl hdX5_inAll ⟨rfl, rfl, Nat.le_of_ble_eq_true rfl, Nat.le_of_ble_eq_true rfl⟩ rfl (Nat.le_of_ble_eq_true rfl) rfl rfl rfl ?_
      exact gl_iret (pc := 105) C dX5_count_105 (by refine Eq.symm (pa_tab_in ?_ ?_) <;> omega) (rfl)
    · skip
      refine gl_tableIn (pc := 1) (off := 97) 98 C dX5_count_1 (by decide) (by decide) (by decide) (by decide) ?_
      refine gl_aload_0 (pc := 98) C dX5_count_98 ?_
      refine gl_iload_1 (pc := 99) C dX5_count_99 ?_
      refine gl_iconst (pc := 100) (nI 4) C dX5_count_100 (by decide) ?_
      refine gl_isub (pc := 101) C dX5_count_101 ?_
      refine gl_top (pk_sub (by omega)) ?_
      refine gl_callVi (pc := 102) (ctX5_inAll V.1 hn40 hn _) C dX5_count_102 gX5_count_X5_inAll rfl hdX5_inAll ⟨rfl, rfl, Nat.le_of_ble_eq_true rfl, Nat.le_of_ble_eq_true rfl⟩ rfl (Nat.le_of_ble_eq_true rfl) rfl rfl rfl ?_
      exact gl_iret (pc := 105) C dX5_count_105 (by refine Eq.symm (pa_tab_in ?_ ?_) <;> omega) (rfl)
    · skip
      refine gl_tableIn (pc := 1) (off := 105) 106 C dX5_count_1 (by decide) (by decide) (by decide) (by decide) ?_
      refine gl_aload_0 (pc := 106) C dX5_count_106 ?_
      refine gl_callVi (pc := 107) (ctX5_groups V.1 hn40 hn (fun k hk => (hcal k hk).2.2.1)) C dX5_count_107 gX5_count_X5_groups rfl hdX5_groups ⟨rfl, rfl, Nat.le_of_ble_eq_true rfl, Nat.le_of_ble_eq_true rfl⟩ rfl (Nat.le_of_ble_eq_true rfl) rfl rfl rfl ?_
      exact gl_iret (pc := 110) C dX5_count_110 (by refine Eq.symm (pa_tab_in ?_ ?_) <;> omega) (rfl)
    · skip
      refine gl_tableIn (pc := 1) (off := 110) 111 C dX5_count_1 (by decide) (by decide) (by decide) (by decide) ?_
      refine gl_aload_0 (pc := 111) C dX5_count_111 ?_
      refine gl_iconst (pc := 112) (nI 5) C dX5_count_112 (by decide) ?_
      refine gl_iconst (pc := 113) (nI 0) C dX5_count_113 (by decide) ?_
      refine gl_callVi (pc := 114) (ctX5_sumOfCars_w V.1 hm5 hm _) C dX5_count_114 gX5_count_X5_sumOfCars rfl hdX5_sumOfCars ⟨rfl, rfl, Nat.le_of_ble_eq_true rfl, Nat.le_of_ble_eq_true rfl⟩ rfl (Nat.le_of_ble_eq_true rfl) rfl rfl rfl ?_
      exact gl_iret (pc := 117) C dX5_count_117 (by refine Eq.symm (pa_tab_in ?_ ?_) <;> omega) (rfl)
    · skip
      refine gl_tableIn (pc := 1) (off := 117) 118 C dX5_count_1 (by decide) (by decide) (by decide) (by decide) ?_
      refine gl_aload_0 (pc := 118) C dX5_count_118 ?_
      refine gl_getR (pc := 119) C dX5_count_119 fX5_count_7 rfl rfl ?_
      refine gl_iconst (pc := 122) (nI 3) C dX5_count_122 (by decide) ?_
      refine gl_iald (pc := 123) _ C dX5_count_123 rfl rfl (by omega) ?_
      exact gl_iret (pc := 124) C dX5_count_124 (by refine Eq.symm (pa_tab_in ?_ ?_) <;> omega) (rfl)
    · skip
      refine gl_tableIn (pc := 1) (off := 124) 125 C dX5_count_1 (by decide) (by decide) (by decide) (by decide) ?_
      refine gl_aload_0 (pc := 125) C dX5_count_125 ?_
      refine gl_iconst (pc := 126) (nI 4) C dX5_count_126 (by decide) ?_
      refine gl_iconst (pc := 127) (nI 1) C dX5_count_127 (by decide) ?_
      refine gl_callVi (pc := 128) (ctX5_sumOfCars_s V.1 hm5 hm (nI 1)) C dX5_count_128 gX5_count_X5_sumOfCars rfl hdX5_sumOfCars ⟨rfl, rfl, Nat.le_of_ble_eq_true rfl, Nat.le_of_ble_eq_true rfl⟩ rfl (Nat.le_of_ble_eq_true rfl) rfl rfl rfl ?_
      exact gl_iret (pc := 131) C dX5_count_131 (by refine Eq.symm (pa_tab_in ?_ ?_) <;> omega) (rfl)
    · skip
      refine gl_tableIn (pc := 1) (off := 131) 132 C dX5_count_1 (by decide) (by decide) (by decide) (by decide) ?_
      refine gl_aload_0 (pc := 132) C dX5_count_132 ?_
      refine gl_iconst (pc := 133) (nI 4) C dX5_count_133 (by decide) ?_
      refine gl_iconst (pc := 134) (nI 2) C dX5_count_134 (by decide) ?_
      refine gl_callVi (pc := 135) (ctX5_sumOfCars_s V.1 hm5 hm (nI 2)) C dX5_count_135 gX5_count_X5_sumOfCars rfl hdX5_sumOfCars ⟨rfl, rfl, Nat.le_of_ble_eq_true rfl, Nat.le_of_ble_eq_true rfl⟩ rfl (Nat.le_of_ble_eq_true rfl) rfl rfl rfl ?_
      exact gl_iret (pc := 138) C dX5_count_138 (by refine Eq.symm (pa_tab_in ?_ ?_) <;> omega) (rfl)
    · skip
      refine gl_tableIn (pc := 1) (off := 138) 139 C dX5_count_1 (by decide) (by decide) (by decide) (by decide) ?_
      refine gl_aload_0 (pc := 139) C dX5_count_139 ?_
      refine gl_getI (pc := 140) C dX5_count_140 fX5_count_22 rfl rfl ?_
      refine gl_top hp ?_
      exact gl_iret (pc := 143) C dX5_count_143 (by refine Eq.symm (pa_tab_in ?_ ?_) <;> omega) (rfl)
set_option maxRecDepth 100000 in
set_option maxHeartbeats 4000000 in
theorem ctX5_car (F : gl_F) {n m t : Nat} {M : Nat → Int32} (w : sp_W n m t M) (ht31 : t < 2000000) (x y : Int32) : gl_Ct F LM yX5_car wsX5_car rmX5_car [.ref (gl_r F 0), .int x, .int y] M (some (.int (pa_car M n m t x y))) (M) := by
  refine gl_met (cc := cX5_car) (maxL := 3) (ret := some .int) [some (.ref (gl_r F 0)), some (.int x), some (.int y)] (plainFor_of_name (by decide)) rfl ok_LM (by simp [Value.category]) (Nat.le_of_ble_eq_true rfl) rfl (fun V hV C => ?_)
  subst hV
  obtain ⟨hn40, hm5, hn, hm, ht, hcar, hcal⟩ := id w
  refine gl_aload_0 (pc := 0) C dX5_car_0 ?_
  refine gl_iload_1 (pc := 1) C dX5_car_1 ?_
  refine gl_callVi (pc := 2) (ctX5_isCar V.1 M x) C dX5_car_2 gX5_car_X5_isCar rfl hdX5_isCar ⟨rfl, rfl, Nat.le_of_ble_eq_true rfl, Nat.le_of_ble_eq_true rfl⟩ rfl (Nat.le_of_ble_eq_true rfl) rfl rfl rfl ?_
  refine gl_ifne (pc := 5) 10 C dX5_car_5 (by decide) (fun h5 => ?_) (fun h5 => ?_)
  · skip
    replace h5 := gl_bn.mp h5
    rw [hm] at h5
    have hok := h5
    obtain ⟨c, hc, rfl⟩ := sp_has_n (by omega) h5
    have hcN : cN (nI c) = c := nI_clamp (by omega)
    have hc5 : c < 5 := by omega
    refine gl_iload_2 (pc := 10) C dX5_car_10 ?_
    rcases gl_cases y 7 (by omega) with hsw | ⟨i11, hi11, ex11⟩
    · skip
      refine gl_tableOut (pc := 11) 120 C dX5_car_11 hsw (by decide) ?_
      refine gl_iconst (pc := 120) (-1) C dX5_car_120 (by decide) ?_
      exact gl_iret (pc := 121) C dX5_car_121 (by rw [pa_car, if_pos hok, pa_tab_out hsw]) (rfl)
    · subst ex11
      rcases (show i11 = 0 ∨ i11 = 1 ∨ i11 = 2 ∨ i11 = 3 ∨ i11 = 4 ∨ i11 = 5 ∨ i11 = 6 ∨ i11 = 7 by omega) with rfl | rfl | rfl | rfl | rfl | rfl | rfl | rfl
      · skip
        refine gl_tableIn (pc := 11) (off := 45) 56 C dX5_car_11 (by decide) (by decide) (by decide) (by decide) ?_
        refine gl_aload_0 (pc := 56) C dX5_car_56 ?_
        refine gl_iload_1 (pc := 57) C dX5_car_57 ?_
        refine gl_iconst (pc := 58) (nI 3) C dX5_car_58 (by decide) ?_
        refine gl_callVi (pc := 59) (ctX5_ofCar V.1 M c 3 (by omega) (by omega)) C dX5_car_59 gX5_car_X5_ofCar rfl hdX5_ofCar ⟨rfl, rfl, Nat.le_of_ble_eq_true rfl, Nat.le_of_ble_eq_true rfl⟩ rfl (Nat.le_of_ble_eq_true rfl) rfl rfl rfl ?_
        exact gl_iret (pc := 62) C dX5_car_62 (by rw [pa_car, if_pos hok, hcN]; refine Eq.symm (pa_tab_in ?_ ?_) <;> omega) (rfl)
      · skip
        refine gl_tableIn (pc := 11) (off := 52) 63 C dX5_car_11 (by decide) (by decide) (by decide) (by decide) ?_
        refine gl_aload_0 (pc := 63) C dX5_car_63 ?_
        refine gl_iload_1 (pc := 64) C dX5_car_64 ?_
        refine gl_iconst (pc := 65) (nI 4) C dX5_car_65 (by decide) ?_
        refine gl_callVi (pc := 66) (ctX5_ofCar V.1 M c 4 (by omega) (by omega)) C dX5_car_66 gX5_car_X5_ofCar rfl hdX5_ofCar ⟨rfl, rfl, Nat.le_of_ble_eq_true rfl, Nat.le_of_ble_eq_true rfl⟩ rfl (Nat.le_of_ble_eq_true rfl) rfl rfl rfl ?_
        exact gl_iret (pc := 69) C dX5_car_69 (by rw [pa_car, if_pos hok, hcN]; refine Eq.symm (pa_tab_in ?_ ?_) <;> omega) (rfl)
      · skip
        refine gl_tableIn (pc := 11) (off := 59) 70 C dX5_car_11 (by decide) (by decide) (by decide) (by decide) ?_
        refine gl_aload_0 (pc := 70) C dX5_car_70 ?_
        refine gl_iload_1 (pc := 71) C dX5_car_71 ?_
        refine gl_iconst (pc := 72) (nI 2) C dX5_car_72 (by decide) ?_
        refine gl_callVi (pc := 73) (ctX5_many V.1 hn40 hn (nI c) (nI 2)) C dX5_car_73 gX5_car_X5_many rfl hdX5_many ⟨rfl, rfl, Nat.le_of_ble_eq_true rfl, Nat.le_of_ble_eq_true rfl⟩ rfl (Nat.le_of_ble_eq_true rfl) rfl rfl rfl ?_
        exact gl_iret (pc := 76) C dX5_car_76 (by rw [pa_car, if_pos hok, hcN]; refine Eq.symm (pa_tab_in ?_ ?_) <;> omega) (rfl)
      · skip
        refine gl_tableIn (pc := 11) (off := 66) 77 C dX5_car_11 (by decide) (by decide) (by decide) (by decide) ?_
        refine gl_aload_0 (pc := 77) C dX5_car_77 ?_
        refine gl_iload_1 (pc := 78) C dX5_car_78 ?_
        refine gl_iconst (pc := 79) (nI 1) C dX5_car_79 (by decide) ?_
        refine gl_callVi (pc := 80) (ctX5_many V.1 hn40 hn (nI c) (nI 1)) C dX5_car_80 gX5_car_X5_many rfl hdX5_many ⟨rfl, rfl, Nat.le_of_ble_eq_true rfl, Nat.le_of_ble_eq_true rfl⟩ rfl (Nat.le_of_ble_eq_true rfl) rfl rfl rfl ?_
        exact gl_iret (pc := 83) C dX5_car_83 (by rw [pa_car, if_pos hok, hcN]; refine Eq.symm (pa_tab_in ?_ ?_) <;> omega) (rfl)
      · skip
        refine gl_tableIn (pc := 11) (off := 73) 84 C dX5_car_11 (by decide) (by decide) (by decide) (by decide) ?_
        refine gl_aload_0 (pc := 84) C dX5_car_84 ?_
        refine gl_iload_1 (pc := 85) C dX5_car_85 ?_
        refine gl_callVi (pc := 86) (ctX5_stops V.1 hn40 hn (fun k hk => (hcal k hk).2.2.1) (nI c)) C dX5_car_86 gX5_car_X5_stops rfl hdX5_stops ⟨rfl, rfl, Nat.le_of_ble_eq_true rfl, Nat.le_of_ble_eq_true rfl⟩ rfl (Nat.le_of_ble_eq_true rfl) rfl rfl rfl ?_
        refine gl_callSi (pc := 89) (ctX5_ones V.1 M _) C dX5_car_89 gX5_car_X5_ones rfl hdX5_ones ⟨rfl, rfl, Nat.le_of_ble_eq_true rfl, Nat.le_of_ble_eq_true rfl⟩ rfl (Nat.le_of_ble_eq_true rfl) rfl ?_
        exact gl_iret (pc := 92) C dX5_car_92 (by rw [pa_car, if_pos hok, hcN]; refine Eq.symm (pa_tab_in ?_ ?_) <;> omega) (rfl)
      · skip
        refine gl_tableIn (pc := 11) (off := 82) 93 C dX5_car_11 (by decide) (by decide) (by decide) (by decide) ?_
        refine gl_aload_0 (pc := 93) C dX5_car_93 ?_
        refine gl_iload_1 (pc := 94) C dX5_car_94 ?_
        refine gl_callVi (pc := 95) (ctX5_aim V.1 w c hc) C dX5_car_95 gX5_car_X5_aim rfl hdX5_aim ⟨rfl, rfl, Nat.le_of_ble_eq_true rfl, Nat.le_of_ble_eq_true rfl⟩ rfl (Nat.le_of_ble_eq_true rfl) rfl rfl rfl ?_
        exact gl_iret (pc := 98) C dX5_car_98 (by rw [pa_car, if_pos hok, hcN]; refine Eq.symm (pa_tab_in ?_ ?_) <;> omega) (rfl)
      · skip
        refine gl_tableIn (pc := 11) (off := 88) 99 C dX5_car_11 (by decide) (by decide) (by decide) (by decide) ?_
        refine gl_aload_0 (pc := 99) C dX5_car_99 ?_
        refine gl_iload_1 (pc := 100) C dX5_car_100 ?_
        refine gl_iconst (pc := 101) (nI 5) C dX5_car_101 (by decide) ?_
        refine gl_callVi (pc := 102) (ctX5_ofCar V.1 M c 5 (by omega) (by omega)) C dX5_car_102 gX5_car_X5_ofCar rfl hdX5_ofCar ⟨rfl, rfl, Nat.le_of_ble_eq_true rfl, Nat.le_of_ble_eq_true rfl⟩ rfl (Nat.le_of_ble_eq_true rfl) rfl rfl rfl ?_
        exact gl_iret (pc := 105) C dX5_car_105 (by rw [pa_car, if_pos hok, hcN]; refine Eq.symm (pa_tab_in ?_ ?_) <;> omega) (rfl)
      · skip
        refine gl_tableIn (pc := 11) (off := 95) 106 C dX5_car_11 (by decide) (by decide) (by decide) (by decide) ?_
        refine gl_aload_0 (pc := 106) C dX5_car_106 ?_
        refine gl_iload_1 (pc := 107) C dX5_car_107 ?_
        refine gl_callVi (pc := 108) (ctX5_isAwake V.1 w (by omega) c) C dX5_car_108 gX5_car_X5_isAwake rfl hdX5_isAwake ⟨rfl, rfl, Nat.le_of_ble_eq_true rfl, Nat.le_of_ble_eq_true rfl⟩ rfl (Nat.le_of_ble_eq_true rfl) rfl rfl rfl ?_
        refine gl_ifeq (pc := 111) 118 C dX5_car_111 (by decide) (fun h111 => ?_) (fun h111 => ?_)
        · skip
          replace h111 := gl_bz.mp h111
          refine gl_iconst (pc := 118) (nI 0) C dX5_car_118 (by decide) ?_
          exact gl_iret (pc := 119) C dX5_car_119 (by rw [pa_car, if_pos hok, hcN]; rw [show pa_tab 7 (pc_car M n t c) (nI 7) = pc_car M n t c 7 from pa_tab_in (by omega) (by omega)]; simp only [pc_car]; first | rw [if_pos h111] | rw [if_neg h111]) (rfl)
        · skip
          replace h111 := gl_bn.mp h111
          refine gl_iconst (pc := 114) (nI 1) C dX5_car_114 (by decide) ?_
          refine gl_goto (pc := 115) 119 C dX5_car_115 (by decide) ?_
          exact gl_iret (pc := 119) C dX5_car_119 (by rw [pa_car, if_pos hok, hcN]; rw [show pa_tab 7 (pc_car M n t c) (nI 7) = pc_car M n t c 7 from pa_tab_in (by omega) (by omega)]; simp only [pc_car]; first | rw [if_pos h111] | rw [if_neg h111]) (rfl)
  · skip
    replace h5 := gl_bz.mp h5
    rw [hm] at h5
    refine gl_iconst (pc := 8) (-1) C dX5_car_8 (by decide) ?_
    exact gl_iret (pc := 9) C dX5_car_9 (by rw [pa_car, if_neg h5]) (rfl)
set_option maxRecDepth 100000 in
set_option maxHeartbeats 4000000 in
theorem ctX5_caller (F : gl_F) {n m t : Nat} {M : Nat → Int32} (w : sp_W n m t M) (ht31 : t < 2000000) (x y : Int32) : gl_Ct F LM yX5_caller wsX5_caller rmX5_caller [.ref (gl_r F 0), .int x, .int y] M (some (.int (pa_caller M n x y))) (M) := by
  refine gl_met (cc := cX5_caller) (maxL := 3) (ret := some .int) [some (.ref (gl_r F 0)), some (.int x), some (.int y)] (plainFor_of_name (by decide)) rfl ok_LM (by simp [Value.category]) (Nat.le_of_ble_eq_true rfl) rfl (fun V hV C => ?_)
  subst hV
  obtain ⟨hn40, hm5, hn, hm, ht, hcar, hcal⟩ := id w
  refine gl_aload_0 (pc := 0) C dX5_caller_0 ?_
  refine gl_iload_1 (pc := 1) C dX5_caller_1 ?_
  refine gl_callVi (pc := 2) (ctX5_isCaller V.1 M x) C dX5_caller_2 gX5_caller_X5_isCaller rfl hdX5_isCaller ⟨rfl, rfl, Nat.le_of_ble_eq_true rfl, Nat.le_of_ble_eq_true rfl⟩ rfl (Nat.le_of_ble_eq_true rfl) rfl rfl rfl ?_
  refine gl_ifeq (pc := 5) 27 C dX5_caller_5 (by decide) (fun h5 => ?_) (fun h5 => ?_)
  · skip
    replace h5 := gl_bz.mp h5
    rw [hn] at h5
    have hno : ¬ (sp_has x (nI n) ∧ sp_inr y (nI 0) (nI 7)) := fun q => h5 q.1
    refine gl_iconst (pc := 27) (-1) C dX5_caller_27 (by decide) ?_
    exact gl_iret (pc := 28) C dX5_caller_28 (by rw [pa_caller, if_neg hno]) (rfl)
  · skip
    replace h5 := gl_bn.mp h5
    rw [hn] at h5
    refine gl_iload_2 (pc := 8) C dX5_caller_8 ?_
    refine gl_iconst (pc := 9) (nI 0) C dX5_caller_9 (by decide) ?_
    refine gl_bipush (pc := 10) (nI 7) C dX5_caller_10 (by decide +kernel) ?_
    refine gl_callSi (pc := 12) (ctX5_in V.1 LM ok_LM M y (nI 0) (nI 7)) C dX5_caller_12 gX5_caller_X5_in rfl hdX5_in ⟨rfl, rfl, Nat.le_of_ble_eq_true rfl, Nat.le_of_ble_eq_true rfl⟩ rfl (Nat.le_of_ble_eq_true rfl) rfl ?_
    refine gl_ifeq (pc := 15) 27 C dX5_caller_15 (by decide) (fun h15 => ?_) (fun h15 => ?_)
    · skip
      replace h15 := gl_bz.mp h15
      have hno : ¬ (sp_has x (nI n) ∧ sp_inr y (nI 0) (nI 7)) := fun q => h15 q.2
      refine gl_iconst (pc := 27) (-1) C dX5_caller_27 (by decide) ?_
      exact gl_iret (pc := 28) C dX5_caller_28 (by rw [pa_caller, if_neg hno]) (rfl)
    · skip
      replace h15 := gl_bn.mp h15
      have hok := And.intro h5 h15
      obtain ⟨k, hk, rfl⟩ := sp_has_n (by omega) h5
      have hcN : cN (nI k) = k := nI_clamp (by omega)
      obtain ⟨i, -, hi, rfl⟩ := sp_inr_n (by omega) (by omega) h15
      have hiN : cN (nI i) = i := nI_clamp (by omega)
      refine gl_aload_0 (pc := 18) C dX5_caller_18 ?_
      refine gl_iload_1 (pc := 19) C dX5_caller_19 ?_
      refine gl_iload_2 (pc := 20) C dX5_caller_20 ?_
      refine gl_callVi (pc := 21) (ctX5_ofCaller V.1 M k i (by omega) (by omega)) C dX5_caller_21 gX5_caller_X5_ofCaller rfl hdX5_ofCaller ⟨rfl, rfl, Nat.le_of_ble_eq_true rfl, Nat.le_of_ble_eq_true rfl⟩ rfl (Nat.le_of_ble_eq_true rfl) rfl rfl rfl ?_
      refine gl_goto (pc := 24) 28 C dX5_caller_24 (by decide) ?_
      exact gl_iret (pc := 28) C dX5_caller_28 (by rw [pa_caller, if_pos hok, hcN, hiN]) (rfl)
set_option maxRecDepth 100000 in
set_option maxHeartbeats 4000000 in
theorem ctX5_cost (F : gl_F) {n m t : Nat} {M : Nat → Int32} (w : sp_W n m t M) (ht31 : t < 2000000) (x f g : Int32) : gl_Ct F LM yX5_cost wsX5_cost rmX5_cost [.ref (gl_r F 0), .int x, .int f, .int g] M (some (.int (pa_cost M n m t x f g))) (M) := by
  refine gl_met (cc := cX5_cost) (maxL := 4) (ret := some .int) [some (.ref (gl_r F 0)), some (.int x), some (.int f), some (.int g)] (plainFor_of_name (by decide)) rfl ok_LM (by simp [Value.category]) (Nat.le_of_ble_eq_true rfl) rfl (fun V hV C => ?_)
  subst hV
  obtain ⟨hn40, hm5, hn, hm, ht, hcar, hcal⟩ := id w
  refine gl_aload_0 (pc := 0) C dX5_cost_0 ?_
  refine gl_iload_1 (pc := 1) C dX5_cost_1 ?_
  refine gl_callVi (pc := 2) (ctX5_isCar V.1 M x) C dX5_cost_2 gX5_cost_X5_isCar rfl hdX5_isCar ⟨rfl, rfl, Nat.le_of_ble_eq_true rfl, Nat.le_of_ble_eq_true rfl⟩ rfl (Nat.le_of_ble_eq_true rfl) rfl rfl rfl ?_
  refine gl_ifeq (pc := 5) 16 C dX5_cost_5 (by decide) (fun h5 => ?_) (fun h5 => ?_)
  · skip
    replace h5 := gl_bz.mp h5
    rw [hm] at h5
    have hno : ¬ (sp_has x (nI m) ∧ sp_way f g) := fun q => h5 q.1
    refine gl_iconst (pc := 16) (-1) C dX5_cost_16 (by decide) ?_
    exact gl_iret (pc := 17) C dX5_cost_17 (by rw [pa_cost, if_neg hno]) (rfl)
  · skip
    replace h5 := gl_bn.mp h5
    rw [hm] at h5
    refine gl_iload_2 (pc := 8) C dX5_cost_8 ?_
    refine gl_iload_3 (pc := 9) C dX5_cost_9 ?_
    refine gl_callSi (pc := 10) (ctX5_isWay V.1 M f g) C dX5_cost_10 gX5_cost_X5_isWay rfl hdX5_isWay ⟨rfl, rfl, Nat.le_of_ble_eq_true rfl, Nat.le_of_ble_eq_true rfl⟩ rfl (Nat.le_of_ble_eq_true rfl) rfl ?_
    refine gl_ifne (pc := 13) 18 C dX5_cost_13 (by decide) (fun h13 => ?_) (fun h13 => ?_)
    · skip
      replace h13 := gl_bn.mp h13
      have hok := And.intro h5 h13
      obtain ⟨c, hc, rfl⟩ := sp_has_n (by omega) h5
      have hcN : cN (nI c) = c := nI_clamp (by omega)
      have hc5 : c < 5 := by omega
      refine gl_aload_0 (pc := 18) C dX5_cost_18 ?_
      refine gl_iload_1 (pc := 19) C dX5_cost_19 ?_
      refine gl_iload_2 (pc := 20) C dX5_cost_20 ?_
      refine gl_iload_3 (pc := 21) C dX5_cost_21 ?_
      refine gl_callVi (pc := 22) (ctX5_canBeGiven V.1 w (by omega) hc5 f g) C dX5_cost_22 gX5_cost_X5_canBeGiven rfl hdX5_canBeGiven ⟨rfl, rfl, Nat.le_of_ble_eq_true rfl, Nat.le_of_ble_eq_true rfl⟩ rfl (Nat.le_of_ble_eq_true rfl) rfl rfl rfl ?_
      refine gl_ifeq (pc := 25) 38 C dX5_cost_25 (by decide) (fun h25 => ?_) (fun h25 => ?_)
      · skip
        replace h25 := gl_bz.mp h25
        refine gl_bipush (pc := 38) (-9) C dX5_cost_38 (by decide +kernel) ?_
        exact gl_iret (pc := 40) C dX5_cost_40 (by rw [pa_cost, if_pos hok, hcN, if_neg h25]) (rfl)
      · skip
        replace h25 := gl_bn.mp h25
        refine gl_aload_0 (pc := 28) C dX5_cost_28 ?_
        refine gl_iload_1 (pc := 29) C dX5_cost_29 ?_
        refine gl_iload_2 (pc := 30) C dX5_cost_30 ?_
        refine gl_iload_3 (pc := 31) C dX5_cost_31 ?_
        refine gl_callVi (pc := 32) (ctX5_costOf V.1 w hc f g) C dX5_cost_32 gX5_cost_X5_costOf rfl hdX5_costOf ⟨rfl, rfl, Nat.le_of_ble_eq_true rfl, Nat.le_of_ble_eq_true rfl⟩ rfl (Nat.le_of_ble_eq_true rfl) rfl rfl rfl ?_
        refine gl_goto (pc := 35) 40 C dX5_cost_35 (by decide) ?_
        exact gl_iret (pc := 40) C dX5_cost_40 (by rw [pa_cost, if_pos hok, hcN, if_pos h25]) (rfl)
    · skip
      replace h13 := gl_bz.mp h13
      have hno : ¬ (sp_has x (nI m) ∧ sp_way f g) := fun q => h13 q.2
      refine gl_iconst (pc := 16) (-1) C dX5_cost_16 (by decide) ?_
      exact gl_iret (pc := 17) C dX5_cost_17 (by rw [pa_cost, if_neg hno]) (rfl)
set_option maxRecDepth 100000 in
set_option maxHeartbeats 4000000 in
theorem ctX5_would (F : gl_F) {n m t : Nat} {M : Nat → Int32} (w : sp_W n m t M) (ht31 : t < 2000000) (f g : Int32) : gl_Ct F LM yX5_would wsX5_would rmX5_would [.ref (gl_r F 0), .int f, .int g] M (some (.int (pa_would M n m t f g))) (M) := by
  refine gl_met (cc := cX5_would) (maxL := 3) (ret := some .int) [some (.ref (gl_r F 0)), some (.int f), some (.int g)] (plainFor_of_name (by decide)) rfl ok_LM (by simp [Value.category]) (Nat.le_of_ble_eq_true rfl) rfl (fun V hV C => ?_)
  subst hV
  obtain ⟨hn40, hm5, hn, hm, ht, hcar, hcal⟩ := id w
  refine gl_iload_1 (pc := 0) C dX5_would_0 ?_
  refine gl_iload_2 (pc := 1) C dX5_would_1 ?_
  refine gl_callSi (pc := 2) (ctX5_isWay V.1 M f g) C dX5_would_2 gX5_would_X5_isWay rfl hdX5_isWay ⟨rfl, rfl, Nat.le_of_ble_eq_true rfl, Nat.le_of_ble_eq_true rfl⟩ rfl (Nat.le_of_ble_eq_true rfl) rfl ?_
  refine gl_ifeq (pc := 5) 17 C dX5_would_5 (by decide) (fun h5 => ?_) (fun h5 => ?_)
  · skip
    replace h5 := gl_bz.mp h5
    refine gl_iconst (pc := 17) (-1) C dX5_would_17 (by decide) ?_
    exact gl_iret (pc := 18) C dX5_would_18 (by rw [pa_would, if_neg h5]) (rfl)
  · skip
    replace h5 := gl_bn.mp h5
    refine gl_aload_0 (pc := 8) C dX5_would_8 ?_
    refine gl_iload_1 (pc := 9) C dX5_would_9 ?_
    refine gl_iload_2 (pc := 10) C dX5_would_10 ?_
    refine gl_callVi (pc := 11) (ctX5_best V.1 w (by omega) f g) C dX5_would_11 gX5_would_X5_best rfl hdX5_best ⟨rfl, rfl, Nat.le_of_ble_eq_true rfl, Nat.le_of_ble_eq_true rfl⟩ rfl (Nat.le_of_ble_eq_true rfl) rfl rfl rfl ?_
    refine gl_goto (pc := 14) 18 C dX5_would_14 (by decide) ?_
    exact gl_iret (pc := 18) C dX5_would_18 (by rw [pa_would, if_pos h5]) (rfl)
set_option maxRecDepth 100000 in
set_option maxHeartbeats 4000000 in
theorem ctX5_thereIn (F : gl_F) {n m t : Nat} {M : Nat → Int32} (w : sp_W n m t M) (ht31 : t < 2000000) (x : Int32) : gl_Ct F LM yX5_thereIn wsX5_thereIn rmX5_thereIn [.ref (gl_r F 0), .int x] M (some (.int (pa_there (sp_save M 400) n m t x))) (if sp_has x (nI n) then (sp_save M 400) else M) := by
  refine gl_met (cc := cX5_thereIn) (maxL := 3) (ret := some .int) [some (.ref (gl_r F 0)), some (.int x), none] (plainFor_of_name (by decide)) rfl ok_LM (by simp [Value.category]) (Nat.le_of_ble_eq_true rfl) rfl (fun V hV C => ?_)
  subst hV
  obtain ⟨hn40, hm5, hn, hm, ht, hcar, hcal⟩ := id w
  have wH := sp_W_lo (sp_save_lo (M := M) (b := 400) (by omega)) w
  refine gl_aload_0 (pc := 0) C dX5_thereIn_0 ?_
  refine gl_iload_1 (pc := 1) C dX5_thereIn_1 ?_
  refine gl_callVi (pc := 2) (ctX5_isCaller V.1 M x) C dX5_thereIn_2 gX5_thereIn_X5_isCaller rfl hdX5_isCaller ⟨rfl, rfl, Nat.le_of_ble_eq_true rfl, Nat.le_of_ble_eq_true rfl⟩ rfl (Nat.le_of_ble_eq_true rfl) rfl rfl rfl ?_
  refine gl_ifne (pc := 5) 10 C dX5_thereIn_5 (by decide) (fun h5 => ?_) (fun h5 => ?_)
  · skip
    replace h5 := gl_bn.mp h5
    rw [hn] at h5
    have hok := h5
    obtain ⟨k, hk, rfl⟩ := sp_has_n (by omega) h5
    have hcN : cN (nI k) = k := nI_clamp (by omega)
    refine gl_aload_0 (pc := 10) C dX5_thereIn_10 ?_
    refine gl_getR (pc := 11) C dX5_thereIn_11 fX5_thereIn_7 rfl rfl ?_
    refine gl_aload_0 (pc := 14) C dX5_thereIn_14 ?_
    refine gl_getR (pc := 15) C dX5_thereIn_15 fX5_thereIn_16 rfl rfl ?_
    refine gl_callSv (pc := 18) (ctX5_copies_save V.1 M (jb := 3) (b := 400) rfl (by omega)) C dX5_thereIn_18 gX5_thereIn_X5_copies rfl hdX5_copies ⟨rfl, rfl, Nat.le_of_ble_eq_true rfl, Nat.le_of_ble_eq_true rfl⟩ rfl (Nat.le_of_ble_eq_true rfl) rfl ?_
    refine gl_iconst (pc := 21) (nI 0) C dX5_thereIn_21 (by decide) ?_
    refine gl_istore_2 (pc := 22) C dX5_thereIn_22 ?_
    refine gl_loop (pc := 23) (n := 401) (fun j => [some (.ref (gl_r V.1 0)), some (.int (nI k)), some (.int (nI j))]) (fun j => sp_run (sp_save M 400) t n m j) (fun j => sp_thJ (sp_save M 400) t n m k = sp_fst (sp_thP (sp_save M 400) t n m k) j (401 - j)) 0 (Nat.zero_le _) (rfl) (gl_le_c (rfl) (gl_le_c (rfl) (gl_le_c (rfl) (gl_le_n)))) (rfl) (fun hI => ?_) (fun j hj hI ih => ?_)
    · skip
      have eJ : sp_thJ (sp_save M 400) t n m k = 401 := by rw [hI, sp_fst_end]
      refine gl_iload_2 (pc := 23) C dX5_thereIn_23 ?_
      refine gl_sipush (pc := 24) (nI 400) C dX5_thereIn_24 (by decide +kernel) ?_
      refine gl_icmp_gt (pc := 27) 50 C dX5_thereIn_27 (by decide) (fun h27 => ?_) (fun h27 => absurd h27 (not_not_intro (nI_lt (by omega) (by omega))))
      refine gl_aload_0 (pc := 50) C dX5_thereIn_50 ?_
      refine gl_getR (pc := 51) C dX5_thereIn_51 fX5_thereIn_16 rfl rfl ?_
      refine gl_aload_0 (pc := 54) C dX5_thereIn_54 ?_
      refine gl_getR (pc := 55) C dX5_thereIn_55 fX5_thereIn_7 rfl rfl ?_
      refine gl_callSv (pc := 58) (ctX5_copies_load V.1 _ (jb := 3) (b := 400) rfl (by omega)) C dX5_thereIn_58 gX5_thereIn_X5_copies rfl hdX5_copies ⟨rfl, rfl, Nat.le_of_ble_eq_true rfl, Nat.le_of_ble_eq_true rfl⟩ rfl (Nat.le_of_ble_eq_true rfl) rfl ?_
      refine gl_mem (sp_load_of (M := M) (by omega) (fun i hi => sp_run_hi hn40 hm5 hi _)) ?_
      refine gl_iload_2 (pc := 61) C dX5_thereIn_61 ?_
      refine gl_sipush (pc := 62) (nI 400) C dX5_thereIn_62 (by decide +kernel) ?_
      refine gl_icmp_le (pc := 65) 73 C dX5_thereIn_65 (by decide) (fun h65 => absurd h65 (nI_ge (by omega) (by omega))) (fun h65 => ?_)
      refine gl_bipush (pc := 68) (-9) C dX5_thereIn_68 (by decide +kernel) ?_
      refine gl_goto (pc := 70) 74 C dX5_thereIn_70 (by decide) ?_
      exact gl_iret (pc := 74) C dX5_thereIn_74 (by rw [pa_there, if_pos hok, hcN, if_neg (by omega)]) ((if_pos hok).symm)
    · skip
      have wj := sp_run_W wH j
      refine gl_iload_2 (pc := 23) C dX5_thereIn_23 ?_
      refine gl_sipush (pc := 24) (nI 400) C dX5_thereIn_24 (by decide +kernel) ?_
      refine gl_icmp_gt (pc := 27) 50 C dX5_thereIn_27 (by decide) (fun h27 => absurd h27 (nI_nlt (by omega) (by omega))) (fun h27 => ?_)
      refine gl_aload_0 (pc := 30) C dX5_thereIn_30 ?_
      refine gl_iload_1 (pc := 31) C dX5_thereIn_31 ?_
      refine gl_iconst (pc := 32) (nI 2) C dX5_thereIn_32 (by decide) ?_
      refine gl_callVi (pc := 33) (ctX5_ofCaller V.1 _ k 2 (by omega) (by omega)) C dX5_thereIn_33 gX5_thereIn_X5_ofCaller rfl hdX5_ofCaller ⟨rfl, rfl, Nat.le_of_ble_eq_true rfl, Nat.le_of_ble_eq_true rfl⟩ rfl (Nat.le_of_ble_eq_true rfl) rfl rfl rfl ?_
      refine gl_iconst (pc := 36) (nI 3) C dX5_thereIn_36 (by decide) ?_
      refine gl_icmp_eq (pc := 37) 50 C dX5_thereIn_37 (by decide) (fun h37 => ?_) (fun h37 => ?_)
      · skip
        have eJ : sp_thJ (sp_save M 400) t n m k = j := hI.trans (sp_fst_at hj (by simp only [decide_eq_true_eq]; exact h37))
        refine gl_aload_0 (pc := 50) C dX5_thereIn_50 ?_
        refine gl_getR (pc := 51) C dX5_thereIn_51 fX5_thereIn_16 rfl rfl ?_
        refine gl_aload_0 (pc := 54) C dX5_thereIn_54 ?_
        refine gl_getR (pc := 55) C dX5_thereIn_55 fX5_thereIn_7 rfl rfl ?_
        refine gl_callSv (pc := 58) (ctX5_copies_load V.1 _ (jb := 3) (b := 400) rfl (by omega)) C dX5_thereIn_58 gX5_thereIn_X5_copies rfl hdX5_copies ⟨rfl, rfl, Nat.le_of_ble_eq_true rfl, Nat.le_of_ble_eq_true rfl⟩ rfl (Nat.le_of_ble_eq_true rfl) rfl ?_
        refine gl_mem (sp_load_of (M := M) (by omega) (fun i hi => sp_run_hi hn40 hm5 hi _)) ?_
        refine gl_iload_2 (pc := 61) C dX5_thereIn_61 ?_
        refine gl_sipush (pc := 62) (nI 400) C dX5_thereIn_62 (by decide +kernel) ?_
        refine gl_icmp_le (pc := 65) 73 C dX5_thereIn_65 (by decide) (fun h65 => ?_) (fun h65 => absurd h65 (not_not_intro (nI_le (by omega) (by omega))))
        refine gl_iload_2 (pc := 73) C dX5_thereIn_73 ?_
        exact gl_iret (pc := 74) C dX5_thereIn_74 (by rw [pa_there, if_pos hok, hcN, if_pos (by omega), eJ]) ((if_pos hok).symm)
      · skip
        refine gl_aload_0 (pc := 40) C dX5_thereIn_40 ?_
        refine gl_callVv (pc := 41) (ctX5_ticks V.1 wj (by omega)) C dX5_thereIn_41 gX5_thereIn_X5_ticks rfl hdX5_ticks ⟨rfl, rfl, Nat.le_of_ble_eq_true rfl, Nat.le_of_ble_eq_true rfl⟩ rfl (Nat.le_of_ble_eq_true rfl) rfl rfl rfl ?_
        first | with_reducible refine gl_iincN_2 (pc := 44) gl_i1 C dX5_thereIn_44 ?_ | refine gl_iinc_2 (pc := 44) C dX5_thereIn_44 (gl_inc1 _) ?_
        refine gl_goto (pc := 47) 23 C dX5_thereIn_47 (by decide) ?_
        exact gl_on (ih (hI.trans (sp_fst_no hj (by simp only [decide_eq_true_eq]; exact h37)))) (gl_le_c (rfl) (gl_le_c (rfl) (gl_le_c (rfl) (gl_le_n)))) (rfl)
  · skip
    replace h5 := gl_bz.mp h5
    rw [hn] at h5
    refine gl_iconst (pc := 8) (-1) C dX5_thereIn_8 (by decide) ?_
    exact gl_iret (pc := 9) C dX5_thereIn_9 (by rw [pa_there, if_neg h5]) ((if_neg h5).symm)
set_option maxRecDepth 100000 in
set_option maxHeartbeats 4000000 in
theorem ctX5_waits (F : gl_F) {n m t : Nat} {M : Nat → Int32} (w : sp_W n m t M) (ht31 : t < 2000000) (x : Int32) : gl_Ct F LM yX5_waits wsX5_waits rmX5_waits [.ref (gl_r F 0), .int x] M (some (.int (pa_waits M n t x))) (M) := by
  refine gl_met (cc := cX5_waits) (maxL := 7) (ret := some .int) [some (.ref (gl_r F 0)), some (.int x), none, none, none, none, none] (plainFor_of_name (by decide)) rfl ok_LM (by simp [Value.category]) (Nat.le_of_ble_eq_true rfl) rfl (fun V hV C => ?_)
  subst hV
  obtain ⟨hn40, hm5, hn, hm, ht, hcar, hcal⟩ := id w
  refine gl_iload_1 (pc := 0) C dX5_waits_0 ?_
  refine gl_iconst (pc := 1) (nI 0) C dX5_waits_1 (by decide) ?_
  refine gl_iconst (pc := 2) (nI 2) C dX5_waits_2 (by decide) ?_
  refine gl_callSi (pc := 3) (ctX5_in V.1 LM ok_LM M x (nI 0) (nI 2)) C dX5_waits_3 gX5_waits_X5_in rfl hdX5_in ⟨rfl, rfl, Nat.le_of_ble_eq_true rfl, Nat.le_of_ble_eq_true rfl⟩ rfl (Nat.le_of_ble_eq_true rfl) rfl ?_
  refine gl_ifne (pc := 6) 11 C dX5_waits_6 (by decide) (fun h6 => ?_) (fun h6 => ?_)
  · skip
    replace h6 := gl_bn.mp h6
    refine gl_iconst (pc := 11) (nI 0) C dX5_waits_11 (by decide) ?_
    refine gl_istore_2 (pc := 12) C dX5_waits_12 ?_
    refine gl_bipush (pc := 13) (-9) C dX5_waits_13 (by decide +kernel) ?_
    refine gl_istore_3 (pc := 15) C dX5_waits_15 ?_
    refine gl_bipush (pc := 16) (-9) C dX5_waits_16 (by decide +kernel) ?_
    refine gl_istore_4 (pc := 18) C dX5_waits_18 ?_
    refine gl_iconst (pc := 20) (nI 0) C dX5_waits_20 (by decide) ?_
    refine gl_istore_5 (pc := 21) C dX5_waits_21 ?_
    refine gl_loop (pc := 23) (n := n) (fun k => [some (.ref (gl_r V.1 0)), some (.int x), some (.int (sp_ws M (nI t) k).1), some (.int (sp_ws M (nI t) k).2.1), some (.int (sp_ws M (nI t) k).2.2), some (.int (nI k)), none]) (fun k => M) (fun k => True) 0 (Nat.zero_le _) (trivial) (gl_le_c (rfl) (gl_le_c (rfl) (gl_le_c (rfl) (gl_le_c (rfl) (gl_le_c (rfl) (gl_le_c (rfl) (gl_le_o (gl_le_n)))))))) (rfl) (fun hI => ?_) (fun k hk hI ih => ?_)
    · skip
      refine gl_iload_5 (pc := 23) C dX5_waits_23 ?_
      refine gl_aload_0 (pc := 25) C dX5_waits_25 ?_
      refine gl_getR (pc := 26) C dX5_waits_26 fX5_waits_7 rfl rfl ?_
      refine gl_iconst (pc := 29) (nI 2) C dX5_waits_29 (by decide) ?_
      refine gl_iald (pc := 30) _ C dX5_waits_30 rfl rfl (by omega) ?_
      refine gl_top hn ?_
      refine gl_icmp_ge (pc := 31) 81 C dX5_waits_31 (by decide) (fun h31 => ?_) (fun h31 => absurd h31 (gl_xge))
      refine gl_iload_1 (pc := 81) C dX5_waits_81 ?_
      refine gl_iconst (pc := 82) (nI 2) C dX5_waits_82 (by decide) ?_
      refine gl_icmp_ne (pc := 83) 90 C dX5_waits_83 (by decide) (fun h83 => ?_) (fun h83 => ?_)
      · skip
        refine gl_iload_1 (pc := 90) C dX5_waits_90 ?_
        refine gl_ifne (pc := 91) 98 C dX5_waits_91 (by decide) (fun h91 => ?_) (fun h91 => ?_)
        · skip
          refine gl_iload_4 (pc := 98) C dX5_waits_98 ?_
          exact gl_iret (pc := 100) C dX5_waits_100 (by rw [pa_waits, if_pos h6, if_neg h83, if_neg h91]) (rfl)
        · skip
          refine gl_iload_3 (pc := 94) C dX5_waits_94 ?_
          refine gl_goto (pc := 95) 100 C dX5_waits_95 (by decide) ?_
          exact gl_iret (pc := 100) C dX5_waits_100 (by rw [pa_waits, if_pos h6, if_neg h83, if_pos h91]) (rfl)
      · skip
        refine gl_iload_2 (pc := 86) C dX5_waits_86 ?_
        refine gl_goto (pc := 87) 100 C dX5_waits_87 (by decide) ?_
        exact gl_iret (pc := 100) C dX5_waits_100 (by rw [pa_waits, if_pos h6, if_pos h83]) (rfl)
    · skip
      refine gl_iload_5 (pc := 23) C dX5_waits_23 ?_
      refine gl_aload_0 (pc := 25) C dX5_waits_25 ?_
      refine gl_getR (pc := 26) C dX5_waits_26 fX5_waits_7 rfl rfl ?_
      refine gl_iconst (pc := 29) (nI 2) C dX5_waits_29 (by decide) ?_
      refine gl_iald (pc := 30) _ C dX5_waits_30 rfl rfl (by omega) ?_
      refine gl_top hn ?_
      refine gl_icmp_ge (pc := 31) 81 C dX5_waits_31 (by decide) (fun h31 => absurd h31 (nI_ge hk (by omega))) (fun h31 => ?_)
      refine gl_aload_0 (pc := 34) C dX5_waits_34 ?_
      refine gl_iload_5 (pc := 35) C dX5_waits_35 ?_
      refine gl_callVi (pc := 37) (ctX5_waited V.1 w k hk) C dX5_waits_37 gX5_waits_X5_waited rfl hdX5_waited ⟨rfl, rfl, Nat.le_of_ble_eq_true rfl, Nat.le_of_ble_eq_true rfl⟩ rfl (Nat.le_of_ble_eq_true rfl) rfl rfl rfl ?_
      refine gl_istore_6 (pc := 40) C dX5_waits_40 ?_
      refine gl_iload_2 (pc := 42) C dX5_waits_42 ?_
      refine gl_iload_6 (pc := 43) C dX5_waits_43 ?_
      first | with_reducible refine gl_iaddN (pc := 45) C dX5_waits_45 ?_ | refine gl_iadd (pc := 45) C dX5_waits_45 ?_
      refine gl_istore_2 (pc := 46) C dX5_waits_46 ?_
      refine gl_iload_6 (pc := 47) C dX5_waits_47 ?_
      refine gl_iload_3 (pc := 49) C dX5_waits_49 ?_
      refine gl_icmp_le (pc := 50) 58 C dX5_waits_50 (by decide) (fun h50 => ?_) (fun h50 => ?_)
      · skip
        refine gl_iload_4 (pc := 58) C dX5_waits_58 ?_
        refine gl_istore_4 (pc := 60) C dX5_waits_60 ?_
        refine gl_iload_6 (pc := 62) C dX5_waits_62 ?_
        refine gl_iload_3 (pc := 64) C dX5_waits_64 ?_
        refine gl_icmp_le (pc := 65) 73 C dX5_waits_65 (by decide) (fun h65 => ?_) (fun h65 => absurd h65 (not_not_intro h50))
        refine gl_iload_3 (pc := 73) C dX5_waits_73 ?_
        refine gl_istore_3 (pc := 74) C dX5_waits_74 ?_
        first | with_reducible refine gl_iincN_5 (pc := 75) gl_i1 C dX5_waits_75 ?_ | refine gl_iinc_5 (pc := 75) C dX5_waits_75 (gl_inc1 _) ?_
        refine gl_goto (pc := 78) 23 C dX5_waits_78 (by decide) ?_
        exact gl_on (ih (trivial)) (gl_le_c (rfl) (gl_le_c (rfl) (gl_le_c (rfl) (gl_le_c (congrArg Value.int (by simp only [sp_ws, if_pos h50])) (gl_le_c (congrArg Value.int (by simp only [sp_ws, if_pos h50])) (gl_le_c (rfl) (gl_le_o (gl_le_n)))))))) (rfl)
      · skip
        refine gl_iload_5 (pc := 53) C dX5_waits_53 ?_
        refine gl_goto (pc := 55) 60 C dX5_waits_55 (by decide) ?_
        refine gl_istore_4 (pc := 60) C dX5_waits_60 ?_
        refine gl_iload_6 (pc := 62) C dX5_waits_62 ?_
        refine gl_iload_3 (pc := 64) C dX5_waits_64 ?_
        refine gl_icmp_le (pc := 65) 73 C dX5_waits_65 (by decide) (fun h65 => absurd h65 (h50)) (fun h65 => ?_)
        refine gl_iload_6 (pc := 68) C dX5_waits_68 ?_
        refine gl_goto (pc := 70) 74 C dX5_waits_70 (by decide) ?_
        refine gl_istore_3 (pc := 74) C dX5_waits_74 ?_
        first | with_reducible refine gl_iincN_5 (pc := 75) gl_i1 C dX5_waits_75 ?_ | refine gl_iinc_5 (pc := 75) C dX5_waits_75 (gl_inc1 _) ?_
        refine gl_goto (pc := 78) 23 C dX5_waits_78 (by decide) ?_
        exact gl_on (ih (trivial)) (gl_le_c (rfl) (gl_le_c (rfl) (gl_le_c (rfl) (gl_le_c (congrArg Value.int (by simp only [sp_ws, if_neg h50])) (gl_le_c (congrArg Value.int (by simp only [sp_ws, if_neg h50])) (gl_le_c (rfl) (gl_le_o (gl_le_n)))))))) (rfl)
  · skip
    replace h6 := gl_bz.mp h6
    refine gl_iconst (pc := 9) (-1) C dX5_waits_9 (by decide) ?_
    exact gl_iret (pc := 10) C dX5_waits_10 (by rw [pa_waits, if_neg h6]) (rfl)
set_option maxRecDepth 100000 in
set_option maxHeartbeats 4000000 in
theorem ctX5_worstCar (F : gl_F) {n m t : Nat} {M : Nat → Int32} (w : sp_W n m t M) (ht31 : t < 2000000) (x : Int32) : gl_Ct F LM yX5_worstCar wsX5_worstCar rmX5_worstCar [.ref (gl_r F 0), .int x] M (some (.int (pa_worst (sp_save M 800) n m t x))) (if sp_inr x (nI 0) (nI 1) then sp_wm M m else M) := by
  refine gl_met (cc := cX5_worstCar) (maxL := 6) (ret := some .int) [some (.ref (gl_r F 0)), some (.int x), none, none, none, none] (plainFor_of_name (by decide)) rfl ok_LM (by simp [Value.category]) (Nat.le_of_ble_eq_true rfl) rfl (fun V hV C => ?_)
  subst hV
  obtain ⟨hn40, hm5, hn, hm, ht, hcar, hcal⟩ := id w
  have lS := sp_save_lo (M := M) (b := 800) (by omega)
  have wS := sp_W_lo lS w
  refine gl_iload_1 (pc := 0) C dX5_worstCar_0 ?_
  refine gl_iconst (pc := 1) (nI 0) C dX5_worstCar_1 (by decide) ?_
  refine gl_iconst (pc := 2) (nI 1) C dX5_worstCar_2 (by decide) ?_
  refine gl_callSi (pc := 3) (ctX5_in V.1 LM ok_LM M x (nI 0) (nI 1)) C dX5_worstCar_3 gX5_worstCar_X5_in rfl hdX5_in ⟨rfl, rfl, Nat.le_of_ble_eq_true rfl, Nat.le_of_ble_eq_true rfl⟩ rfl (Nat.le_of_ble_eq_true rfl) rfl ?_
  refine gl_ifne (pc := 6) 11 C dX5_worstCar_6 (by decide) (fun h6 => ?_) (fun h6 => ?_)
  · skip
    replace h6 := gl_bn.mp h6
    refine gl_bipush (pc := 11) (-9) C dX5_worstCar_11 (by decide +kernel) ?_
    refine gl_istore_2 (pc := 13) C dX5_worstCar_13 ?_
    refine gl_bipush (pc := 14) (-9) C dX5_worstCar_14 (by decide +kernel) ?_
    refine gl_istore_3 (pc := 16) C dX5_worstCar_16 ?_
    refine gl_iconst (pc := 17) (nI 0) C dX5_worstCar_17 (by decide) ?_
    refine gl_istore_4 (pc := 18) C dX5_worstCar_18 ?_
    refine gl_loop (pc := 20) (n := m) (fun c => [some (.ref (gl_r V.1 0)), some (.int x), some (.int (sp_worst (sp_save M 800) t n m c).1), some (.int (sp_worst (sp_save M 800) t n m c).2), some (.int (nI c)), none]) (fun c => (sp_wm M c)) (fun c => True) 0 (Nat.zero_le _) (trivial) (gl_le_c (rfl) (gl_le_c (rfl) (gl_le_c (rfl) (gl_le_c (rfl) (gl_le_c (rfl) (gl_le_o (gl_le_n))))))) (rfl) (fun hI => ?_) (fun c hc hI ih => ?_)
    · skip
      refine gl_iload_4 (pc := 20) C dX5_worstCar_20 ?_
      refine gl_aload_0 (pc := 22) C dX5_worstCar_22 ?_
      refine gl_getR (pc := 23) C dX5_worstCar_23 fX5_worstCar_7 rfl rfl ?_
      refine gl_iconst (pc := 26) (nI 1) C dX5_worstCar_26 (by decide) ?_
      refine gl_iald (pc := 27) _ C dX5_worstCar_27 rfl rfl (by omega) ?_
      refine gl_top ((sp_wm_lo m 1 (by omega)).trans hm) ?_
      refine gl_icmp_ge (pc := 28) 108 C dX5_worstCar_28 (by decide) (fun h28 => ?_) (fun h28 => absurd h28 (gl_xge))
      refine gl_iload_1 (pc := 108) C dX5_worstCar_108 ?_
      refine gl_ifne (pc := 109) 116 C dX5_worstCar_109 (by decide) (fun h109 => ?_) (fun h109 => ?_)
      · skip
        refine gl_iload_3 (pc := 116) C dX5_worstCar_116 ?_
        exact gl_iret (pc := 117) C dX5_worstCar_117 (by rw [pa_worst, if_pos h6, if_neg h109]) ((if_pos h6).symm)
      · skip
        refine gl_iload_2 (pc := 112) C dX5_worstCar_112 ?_
        refine gl_goto (pc := 113) 117 C dX5_worstCar_113 (by decide) ?_
        exact gl_iret (pc := 117) C dX5_worstCar_117 (by rw [pa_worst, if_pos h6, if_pos h109]) ((if_pos h6).symm)
    · skip
      refine gl_iload_4 (pc := 20) C dX5_worstCar_20 ?_
      refine gl_aload_0 (pc := 22) C dX5_worstCar_22 ?_
      refine gl_getR (pc := 23) C dX5_worstCar_23 fX5_worstCar_7 rfl rfl ?_
      refine gl_iconst (pc := 26) (nI 1) C dX5_worstCar_26 (by decide) ?_
      refine gl_iald (pc := 27) _ C dX5_worstCar_27 rfl rfl (by omega) ?_
      refine gl_top ((sp_wm_lo c 1 (by omega)).trans hm) ?_
      refine gl_icmp_ge (pc := 28) 108 C dX5_worstCar_28 (by decide) (fun h28 => absurd h28 (nI_ge hc (by omega))) (fun h28 => ?_)
      refine gl_aload_0 (pc := 31) C dX5_worstCar_31 ?_
      refine gl_iload_4 (pc := 32) C dX5_worstCar_32 ?_
      refine gl_iconst (pc := 34) (nI 4) C dX5_worstCar_34 (by decide) ?_
      refine gl_callVi (pc := 35) (ctX5_ofCar V.1 (sp_wm M c) c 4 (by omega) (by omega)) C dX5_worstCar_35 gX5_worstCar_X5_ofCar rfl hdX5_ofCar ⟨rfl, rfl, Nat.le_of_ble_eq_true rfl, Nat.le_of_ble_eq_true rfl⟩ rfl (Nat.le_of_ble_eq_true rfl) rfl rfl rfl ?_
      refine gl_top (sp_wm_lo c (iC c 4) (by unfold iC; omega)) ?_
      refine gl_iconst (pc := 38) (nI 2) C dX5_worstCar_38 (by decide) ?_
      refine gl_icmp_eq (pc := 39) 102 C dX5_worstCar_39 (by decide) (fun h39 => ?_) (fun h39 => ?_)
      · skip
        have hq : sp_save M 800 (iC c 4) = nI 2 := (lS _ (by unfold iC; omega)).trans h39
        first | with_reducible refine gl_iincN_4 (pc := 102) gl_i1 C dX5_worstCar_102 ?_ | refine gl_iinc_4 (pc := 102) C dX5_worstCar_102 (gl_inc1 _) ?_
        refine gl_goto (pc := 105) 20 C dX5_worstCar_105 (by decide) ?_
        exact gl_on (ih (trivial)) (gl_le_c (rfl) (gl_le_c (rfl) (gl_le_c (congrArg Value.int (by rw [sp_worst, if_pos hq])) (gl_le_c (congrArg Value.int (by rw [sp_worst, if_pos hq])) (gl_le_c (rfl) (gl_le_o (gl_le_n))))))) (by rw [sp_wm, if_pos h39])
      · skip
        have hq : ¬ sp_save M 800 (iC c 4) = nI 2 := fun q => h39 ((lS _ (by unfold iC; omega)).symm.trans q)
        refine gl_aload_0 (pc := 42) C dX5_worstCar_42 ?_
        refine gl_getR (pc := 43) C dX5_worstCar_43 fX5_worstCar_7 rfl rfl ?_
        refine gl_aload_0 (pc := 46) C dX5_worstCar_46 ?_
        refine gl_getR (pc := 47) C dX5_worstCar_47 fX5_worstCar_19 rfl rfl ?_
        refine gl_callSv (pc := 50) (ctX5_copies_save V.1 _ (jb := 4) (b := 800) rfl (by omega)) C dX5_worstCar_50 gX5_worstCar_X5_copies rfl hdX5_copies ⟨rfl, rfl, Nat.le_of_ble_eq_true rfl, Nat.le_of_ble_eq_true rfl⟩ rfl (Nat.le_of_ble_eq_true rfl) rfl ?_
        refine gl_mem (sp_wm_save c) ?_
        refine gl_aload_0 (pc := 53) C dX5_worstCar_53 ?_
        refine gl_iload_4 (pc := 54) C dX5_worstCar_54 ?_
        refine gl_callVv (pc := 56) (ctX5_fails V.1 wS c hc) C dX5_worstCar_56 gX5_worstCar_X5_fails rfl hdX5_fails ⟨rfl, rfl, Nat.le_of_ble_eq_true rfl, Nat.le_of_ble_eq_true rfl⟩ rfl (Nat.le_of_ble_eq_true rfl) rfl rfl rfl ?_
        refine gl_aload_0 (pc := 59) C dX5_worstCar_59 ?_
        refine gl_callVi (pc := 60) (ctX5_allThere V.1 (sp_fail_W wS hc) (by omega)) C dX5_worstCar_60 gX5_worstCar_X5_allThere rfl hdX5_allThere ⟨rfl, rfl, Nat.le_of_ble_eq_true rfl, Nat.le_of_ble_eq_true rfl⟩ rfl (Nat.le_of_ble_eq_true rfl) rfl rfl rfl ?_
        refine gl_istore_5 (pc := 63) C dX5_worstCar_63 ?_
        refine gl_aload_0 (pc := 65) C dX5_worstCar_65 ?_
        refine gl_getR (pc := 66) C dX5_worstCar_66 fX5_worstCar_19 rfl rfl ?_
        refine gl_aload_0 (pc := 69) C dX5_worstCar_69 ?_
        refine gl_getR (pc := 70) C dX5_worstCar_70 fX5_worstCar_7 rfl rfl ?_
        refine gl_callSv (pc := 73) (ctX5_copies_load V.1 _ (jb := 4) (b := 800) rfl (by omega)) C dX5_worstCar_73 gX5_worstCar_X5_copies rfl hdX5_copies ⟨rfl, rfl, Nat.le_of_ble_eq_true rfl, Nat.le_of_ble_eq_true rfl⟩ rfl (Nat.le_of_ble_eq_true rfl) rfl ?_
        refine gl_mem (sp_load_of (M := M) (by omega) (fun i hi => (sp_run_hi hn40 hm5 hi _).trans (sp_fail_hi (by omega) hn40 hi))) ?_
        refine gl_iload_5 (pc := 76) C dX5_worstCar_76 ?_
        refine gl_iload_3 (pc := 78) C dX5_worstCar_78 ?_
        refine gl_icmp_le (pc := 79) 87 C dX5_worstCar_79 (by decide) (fun h79 => ?_) (fun h79 => ?_)
        · skip
          refine gl_iload_2 (pc := 87) C dX5_worstCar_87 ?_
          refine gl_istore_2 (pc := 88) C dX5_worstCar_88 ?_
          refine gl_iload_5 (pc := 89) C dX5_worstCar_89 ?_
          refine gl_iload_3 (pc := 91) C dX5_worstCar_91 ?_
          refine gl_icmp_le (pc := 92) 100 C dX5_worstCar_92 (by decide) (fun h92 => ?_) (fun h92 => absurd h92 (not_not_intro h79))
          refine gl_iload_3 (pc := 100) C dX5_worstCar_100 ?_
          refine gl_istore_3 (pc := 101) C dX5_worstCar_101 ?_
          first | with_reducible refine gl_iincN_4 (pc := 102) gl_i1 C dX5_worstCar_102 ?_ | refine gl_iinc_4 (pc := 102) C dX5_worstCar_102 (gl_inc1 _) ?_
          refine gl_goto (pc := 105) 20 C dX5_worstCar_105 (by decide) ?_
          exact gl_on (ih (trivial)) (gl_le_c (rfl) (gl_le_c (rfl) (gl_le_c (congrArg Value.int (by rw [sp_worst, if_neg hq, if_pos h79])) (gl_le_c (congrArg Value.int (by rw [sp_worst, if_neg hq, if_pos h79])) (gl_le_c (rfl) (gl_le_o (gl_le_n))))))) (by rw [sp_wm, if_neg h39])
        · skip
          refine gl_iload_4 (pc := 82) C dX5_worstCar_82 ?_
          refine gl_goto (pc := 84) 88 C dX5_worstCar_84 (by decide) ?_
          refine gl_istore_2 (pc := 88) C dX5_worstCar_88 ?_
          refine gl_iload_5 (pc := 89) C dX5_worstCar_89 ?_
          refine gl_iload_3 (pc := 91) C dX5_worstCar_91 ?_
          refine gl_icmp_le (pc := 92) 100 C dX5_worstCar_92 (by decide) (fun h92 => absurd h92 (h79)) (fun h92 => ?_)
          refine gl_iload_5 (pc := 95) C dX5_worstCar_95 ?_
          refine gl_goto (pc := 97) 101 C dX5_worstCar_97 (by decide) ?_
          refine gl_istore_3 (pc := 101) C dX5_worstCar_101 ?_
          first | with_reducible refine gl_iincN_4 (pc := 102) gl_i1 C dX5_worstCar_102 ?_ | refine gl_iinc_4 (pc := 102) C dX5_worstCar_102 (gl_inc1 _) ?_
          refine gl_goto (pc := 105) 20 C dX5_worstCar_105 (by decide) ?_
          exact gl_on (ih (trivial)) (gl_le_c (rfl) (gl_le_c (rfl) (gl_le_c (congrArg Value.int (by rw [sp_worst, if_neg hq, if_neg h79])) (gl_le_c (congrArg Value.int (by rw [sp_worst, if_neg hq, if_neg h79])) (gl_le_c (rfl) (gl_le_o (gl_le_n))))))) (by rw [sp_wm, if_neg h39])
  · skip
    replace h6 := gl_bz.mp h6
    refine gl_iconst (pc := 9) (-1) C dX5_worstCar_9 (by decide) ?_
    exact gl_iret (pc := 10) C dX5_worstCar_10 (by rw [pa_worst, if_neg h6]) ((if_neg h6).symm)
set_option maxRecDepth 100000 in
set_option maxHeartbeats 4000000 in
theorem ctX5_group (F : gl_F) {n m t : Nat} {M : Nat → Int32} (w : sp_W n m t M) (ht31 : t < 2000000) (i y : Int32) : gl_Ct F LM yX5_group wsX5_group rmX5_group [.ref (gl_r F 0), .int i, .int y] M (some (.int (pa_group M n i y))) (M) := by
  refine gl_met (cc := cX5_group) (maxL := 7) (ret := some .int) [some (.ref (gl_r F 0)), some (.int i), some (.int y), none, none, none, none] (plainFor_of_name (by decide)) rfl ok_LM (by simp [Value.category]) (Nat.le_of_ble_eq_true rfl) rfl (fun V hV C => ?_)
  subst hV
  obtain ⟨hn40, hm5, hn, hm, ht, hcar, hcal⟩ := id w
  refine gl_iload_1 (pc := 0) C dX5_group_0 ?_
  refine gl_iflt (pc := 1) 13 C dX5_group_1 (by decide) (fun h1 => ?_) (fun h1 => ?_)
  · skip
    have hno : ¬ (¬ i < 0 ∧ sp_inr y (nI 0) (nI 3)) := fun q => q.1 h1
    refine gl_iconst (pc := 13) (-1) C dX5_group_13 (by decide) ?_
    exact gl_iret (pc := 14) C dX5_group_14 (by rw [pa_group, if_neg hno]) (rfl)
  · skip
    refine gl_iload_2 (pc := 4) C dX5_group_4 ?_
    refine gl_iconst (pc := 5) (nI 0) C dX5_group_5 (by decide) ?_
    refine gl_iconst (pc := 6) (nI 3) C dX5_group_6 (by decide) ?_
    refine gl_callSi (pc := 7) (ctX5_in V.1 LM ok_LM M y (nI 0) (nI 3)) C dX5_group_7 gX5_group_X5_in rfl hdX5_in ⟨rfl, rfl, Nat.le_of_ble_eq_true rfl, Nat.le_of_ble_eq_true rfl⟩ rfl (Nat.le_of_ble_eq_true rfl) rfl ?_
    refine gl_ifne (pc := 10) 15 C dX5_group_10 (by decide) (fun h10 => ?_) (fun h10 => ?_)
    · skip
      replace h10 := gl_bn.mp h10
      have hok := And.intro h1 h10
      refine gl_iconst (pc := 15) (nI 0) C dX5_group_15 (by decide) ?_
      refine gl_istore_3 (pc := 16) C dX5_group_16 ?_
      refine gl_bipush (pc := 17) (-9) C dX5_group_17 (by decide +kernel) ?_
      refine gl_istore_4 (pc := 19) C dX5_group_19 ?_
      refine gl_iconst (pc := 21) (nI 0) C dX5_group_21 (by decide) ?_
      refine gl_istore_5 (pc := 22) C dX5_group_22 ?_
      refine gl_loop (pc := 24) (n := n) (fun k => [some (.ref (gl_r V.1 0)), some (.int i), some (.int y), some (.int (nI (sp_groups M k))), some (.int (sp_fog M i k)), some (.int (nI k)), none]) (fun k => M) (fun k => True) 0 (Nat.zero_le _) (trivial) (gl_le_c (rfl) (gl_le_c (rfl) (gl_le_c (rfl) (gl_le_c (rfl) (gl_le_c (rfl) (gl_le_c (rfl) (gl_le_o (gl_le_n)))))))) (rfl) (fun hI => ?_) (fun k hk hI ih => ?_)
      · skip
        refine gl_iload_5 (pc := 24) C dX5_group_24 ?_
        refine gl_aload_0 (pc := 26) C dX5_group_26 ?_
        refine gl_getR (pc := 27) C dX5_group_27 fX5_group_7 rfl rfl ?_
        refine gl_iconst (pc := 30) (nI 2) C dX5_group_30 (by decide) ?_
        refine gl_iald (pc := 31) _ C dX5_group_31 rfl rfl (by omega) ?_
        refine gl_top hn ?_
        refine gl_icmp_ge (pc := 32) 81 C dX5_group_32 (by decide) (fun h32 => ?_) (fun h32 => absurd h32 (gl_xge))
        refine gl_iload_4 (pc := 81) C dX5_group_81 ?_
        refine gl_bipush (pc := 83) (-9) C dX5_group_83 (by decide +kernel) ?_
        refine gl_icmp_eq (pc := 85) 93 C dX5_group_85 (by decide) (fun h85 => ?_) (fun h85 => ?_)
        · skip
          refine gl_iload_4 (pc := 93) C dX5_group_93 ?_
          exact gl_iret (pc := 95) C dX5_group_95 (by rw [pa_group, if_pos hok, if_pos (Or.inl h85)]) (rfl)
        · skip
          refine gl_iload_2 (pc := 88) C dX5_group_88 ?_
          refine gl_iconst (pc := 89) (nI 3) C dX5_group_89 (by decide) ?_
          refine gl_icmp_ne (pc := 90) 96 C dX5_group_90 (by decide) (fun h90 => ?_) (fun h90 => ?_)
          · skip
            have hq : ¬ (sp_fog M i n = -9 ∨ y = nI 3) := fun q => q.elim h85 h90
            obtain ⟨f, hf, hff, ef⟩ := (sp_fog_in (M := M) (i := i) n).resolve_left h85
            have hfN : cN (sp_fog M i n) = f := by rw [ef]; exact nI_clamp (by omega)
            have hfo := hff.2
            refine gl_on (L1 := [some (.ref (gl_r V.1 0)), some (.int i), some (.int y), some (.int (nI (sp_groups M n))), some (.int (nI f)), some (.int (nI n)), none]) ?_ (gl_le_c rfl (gl_le_c rfl (gl_le_c rfl (gl_le_c rfl (gl_le_c (congrArg Value.int ef) (gl_le_c rfl (gl_le_o gl_le_n))))))) rfl
            refine gl_iconst (pc := 96) (nI 0) C dX5_group_96 (by decide) ?_
            refine gl_istore_5 (pc := 97) C dX5_group_97 ?_
            refine gl_iconst (pc := 99) (nI 0) C dX5_group_99 (by decide) ?_
            refine gl_istore_6 (pc := 100) C dX5_group_100 ?_
            refine gl_loop (pc := 102) (n := n) (fun k => [some (.ref (gl_r V.1 0)), some (.int i), some (.int y), some (.int (nI (sp_groups M n))), some (.int (nI f)), some (.int (sp_size M f k)), some (.int (nI k))]) (fun k => M) (fun k => True) 0 (Nat.zero_le _) (trivial) (gl_le_c (rfl) (gl_le_c (rfl) (gl_le_c (rfl) (gl_le_c (rfl) (gl_le_c (rfl) (gl_le_c (rfl) (gl_le_c (rfl) (gl_le_n)))))))) (rfl) (fun hI => ?_) (fun k hk hI ih => ?_)
            · skip
              refine gl_iload_6 (pc := 102) C dX5_group_102 ?_
              refine gl_aload_0 (pc := 104) C dX5_group_104 ?_
              refine gl_getR (pc := 105) C dX5_group_105 fX5_group_7 rfl rfl ?_
              refine gl_iconst (pc := 108) (nI 2) C dX5_group_108 (by decide) ?_
              refine gl_iald (pc := 109) _ C dX5_group_109 rfl rfl (by omega) ?_
              refine gl_top hn ?_
              refine gl_icmp_ge (pc := 110) 149 C dX5_group_110 (by decide) (fun h110 => ?_) (fun h110 => absurd h110 (gl_xge))
              refine gl_iload_2 (pc := 149) C dX5_group_149 ?_
              refine gl_iconst (pc := 150) (nI 2) C dX5_group_150 (by decide) ?_
              refine gl_icmp_ne (pc := 151) 159 C dX5_group_151 (by decide) (fun h151 => ?_) (fun h151 => ?_)
              · skip
                obtain ⟨j, -, hj, rfl⟩ := sp_inr_n (by omega) (by omega) h10
                have hjN : cN (nI j) = j := nI_clamp (by omega)
                refine gl_aload_0 (pc := 159) C dX5_group_159 ?_
                refine gl_iload_4 (pc := 160) C dX5_group_160 ?_
                refine gl_iload_2 (pc := 162) C dX5_group_162 ?_
                refine gl_callVi (pc := 163) (ctX5_ofCaller V.1 M f j (by omega) (by omega)) C dX5_group_163 gX5_group_X5_ofCaller rfl hdX5_ofCaller ⟨rfl, rfl, Nat.le_of_ble_eq_true rfl, Nat.le_of_ble_eq_true rfl⟩ rfl (Nat.le_of_ble_eq_true rfl) rfl rfl rfl ?_
                exact gl_iret (pc := 166) C dX5_group_166 (by rw [pa_group, if_pos hok, if_neg hq, if_neg h151, hfN, hjN]) (rfl)
              · skip
                refine gl_iload_5 (pc := 154) C dX5_group_154 ?_
                refine gl_goto (pc := 156) 166 C dX5_group_156 (by decide) ?_
                exact gl_iret (pc := 166) C dX5_group_166 (by rw [pa_group, if_pos hok, if_neg hq, if_pos h151, hfN]) (rfl)
            · skip
              refine gl_iload_6 (pc := 102) C dX5_group_102 ?_
              refine gl_aload_0 (pc := 104) C dX5_group_104 ?_
              refine gl_getR (pc := 105) C dX5_group_105 fX5_group_7 rfl rfl ?_
              refine gl_iconst (pc := 108) (nI 2) C dX5_group_108 (by decide) ?_
              refine gl_iald (pc := 109) _ C dX5_group_109 rfl rfl (by omega) ?_
              refine gl_top hn ?_
              refine gl_icmp_ge (pc := 110) 149 C dX5_group_110 (by decide) (fun h110 => absurd h110 (nI_ge hk (by omega))) (fun h110 => ?_)
              refine gl_iload_5 (pc := 113) C dX5_group_113 ?_
              refine gl_aload_0 (pc := 115) C dX5_group_115 ?_
              refine gl_iload_6 (pc := 116) C dX5_group_116 ?_
              refine gl_callVi (pc := 118) (ctX5_isOpen V.1 M k (by omega) (hcal k hk).2.2.1) C dX5_group_118 gX5_group_X5_isOpen rfl hdX5_isOpen ⟨rfl, rfl, Nat.le_of_ble_eq_true rfl, Nat.le_of_ble_eq_true rfl⟩ rfl (Nat.le_of_ble_eq_true rfl) rfl rfl rfl ?_
              refine gl_ifeq (pc := 121) 139 C dX5_group_121 (by decide) (fun h121 => ?_) (fun h121 => ?_)
              · skip
                replace h121 := gl_bz.mp h121
                refine gl_iconst (pc := 139) (nI 0) C dX5_group_139 (by decide) ?_
                first | with_reducible refine gl_iaddN (pc := 140) C dX5_group_140 ?_ | refine gl_iadd (pc := 140) C dX5_group_140 ?_
                refine gl_istore_5 (pc := 141) C dX5_group_141 ?_
                first | with_reducible refine gl_iincN_6 (pc := 143) gl_i1 C dX5_group_143 ?_ | refine gl_iinc_6 (pc := 143) C dX5_group_143 (gl_inc1 _) ?_
                refine gl_goto (pc := 146) 102 C dX5_group_146 (by decide) ?_
                exact gl_on (ih (trivial)) (gl_le_c (rfl) (gl_le_c (rfl) (gl_le_c (rfl) (gl_le_c (rfl) (gl_le_c (rfl) (gl_le_c (congrArg Value.int (by grind [sp_size, gl_add0])) (gl_le_c (rfl) (gl_le_n)))))))) (rfl)
              · skip
                replace h121 := gl_bn.mp h121
                refine gl_aload_0 (pc := 124) C dX5_group_124 ?_
                refine gl_iload_6 (pc := 125) C dX5_group_125 ?_
                refine gl_iload_4 (pc := 127) C dX5_group_127 ?_
                refine gl_callVi (pc := 129) (ctX5_areOne V.1 M k f (by omega) (by omega)) C dX5_group_129 gX5_group_X5_areOne rfl hdX5_areOne ⟨rfl, rfl, Nat.le_of_ble_eq_true rfl, Nat.le_of_ble_eq_true rfl⟩ rfl (Nat.le_of_ble_eq_true rfl) rfl rfl rfl ?_
                refine gl_ifeq (pc := 132) 139 C dX5_group_132 (by decide) (fun h132 => ?_) (fun h132 => ?_)
                · skip
                  replace h132 := gl_bz.mp h132
                  refine gl_iconst (pc := 139) (nI 0) C dX5_group_139 (by decide) ?_
                  first | with_reducible refine gl_iaddN (pc := 140) C dX5_group_140 ?_ | refine gl_iadd (pc := 140) C dX5_group_140 ?_
                  refine gl_istore_5 (pc := 141) C dX5_group_141 ?_
                  first | with_reducible refine gl_iincN_6 (pc := 143) gl_i1 C dX5_group_143 ?_ | refine gl_iinc_6 (pc := 143) C dX5_group_143 (gl_inc1 _) ?_
                  refine gl_goto (pc := 146) 102 C dX5_group_146 (by decide) ?_
                  exact gl_on (ih (trivial)) (gl_le_c (rfl) (gl_le_c (rfl) (gl_le_c (rfl) (gl_le_c (rfl) (gl_le_c (rfl) (gl_le_c (congrArg Value.int (by grind [sp_size, gl_add0])) (gl_le_c (rfl) (gl_le_n)))))))) (rfl)
                · skip
                  replace h132 := gl_bn.mp h132
                  refine gl_iconst (pc := 135) (nI 1) C dX5_group_135 (by decide) ?_
                  refine gl_goto (pc := 136) 140 C dX5_group_136 (by decide) ?_
                  first | with_reducible refine gl_iaddN (pc := 140) C dX5_group_140 ?_ | refine gl_iadd (pc := 140) C dX5_group_140 ?_
                  refine gl_istore_5 (pc := 141) C dX5_group_141 ?_
                  first | with_reducible refine gl_iincN_6 (pc := 143) gl_i1 C dX5_group_143 ?_ | refine gl_iinc_6 (pc := 143) C dX5_group_143 (gl_inc1 _) ?_
                  refine gl_goto (pc := 146) 102 C dX5_group_146 (by decide) ?_
                  exact gl_on (ih (trivial)) (gl_le_c (rfl) (gl_le_c (rfl) (gl_le_c (rfl) (gl_le_c (rfl) (gl_le_c (rfl) (gl_le_c (congrArg Value.int (by grind [sp_size, gl_add0])) (gl_le_c (rfl) (gl_le_n)))))))) (rfl)
          · skip
            refine gl_iload_4 (pc := 93) C dX5_group_93 ?_
            exact gl_iret (pc := 95) C dX5_group_95 (by rw [pa_group, if_pos hok, if_pos (Or.inr h90)]) (rfl)
      · skip
        refine gl_iload_5 (pc := 24) C dX5_group_24 ?_
        refine gl_aload_0 (pc := 26) C dX5_group_26 ?_
        refine gl_getR (pc := 27) C dX5_group_27 fX5_group_7 rfl rfl ?_
        refine gl_iconst (pc := 30) (nI 2) C dX5_group_30 (by decide) ?_
        refine gl_iald (pc := 31) _ C dX5_group_31 rfl rfl (by omega) ?_
        refine gl_top hn ?_
        refine gl_icmp_ge (pc := 32) 81 C dX5_group_32 (by decide) (fun h32 => absurd h32 (nI_ge hk (by omega))) (fun h32 => ?_)
        refine gl_aload_0 (pc := 35) C dX5_group_35 ?_
        refine gl_iload_5 (pc := 36) C dX5_group_36 ?_
        refine gl_callVi (pc := 38) (ctX5_isFirst V.1 hn40 hn (fun k hk => (hcal k hk).2.2.1) k hk) C dX5_group_38 gX5_group_X5_isFirst rfl hdX5_isFirst ⟨rfl, rfl, Nat.le_of_ble_eq_true rfl, Nat.le_of_ble_eq_true rfl⟩ rfl (Nat.le_of_ble_eq_true rfl) rfl rfl rfl ?_
        refine gl_istore_6 (pc := 41) C dX5_group_41 ?_
        refine gl_iload_6 (pc := 43) C dX5_group_43 ?_
        refine gl_ifeq (pc := 45) 58 C dX5_group_45 (by decide) (fun h45 => ?_) (fun h45 => ?_)
        · skip
          replace h45 := gl_bz.mp h45
          refine gl_iload_4 (pc := 58) C dX5_group_58 ?_
          refine gl_istore_4 (pc := 60) C dX5_group_60 ?_
          refine gl_iload_3 (pc := 62) C dX5_group_62 ?_
          refine gl_iload_6 (pc := 63) C dX5_group_63 ?_
          refine gl_ifeq (pc := 65) 72 C dX5_group_65 (by decide) (fun h65 => ?_) (fun h65 => absurd h65 (not_not_intro (gl_bz.mpr h45)))
          refine gl_iconst (pc := 72) (nI 0) C dX5_group_72 (by decide) ?_
          first | with_reducible refine gl_iaddN (pc := 73) C dX5_group_73 ?_ | refine gl_iadd (pc := 73) C dX5_group_73 ?_
          refine gl_istore_3 (pc := 74) C dX5_group_74 ?_
          first | with_reducible refine gl_iincN_5 (pc := 75) gl_i1 C dX5_group_75 ?_ | refine gl_iinc_5 (pc := 75) C dX5_group_75 (gl_inc1 _) ?_
          refine gl_goto (pc := 78) 24 C dX5_group_78 (by decide) ?_
          exact gl_on (ih (trivial)) (gl_le_c (rfl) (gl_le_c (rfl) (gl_le_c (rfl) (gl_le_c (congrArg Value.int (by grind [sp_groups])) (gl_le_c (congrArg Value.int (by grind [sp_fog])) (gl_le_c (rfl) (gl_le_o (gl_le_n)))))))) (rfl)
        · skip
          replace h45 := gl_bn.mp h45
          refine gl_iload_3 (pc := 48) C dX5_group_48 ?_
          refine gl_iload_1 (pc := 49) C dX5_group_49 ?_
          refine gl_icmp_ne (pc := 50) 58 C dX5_group_50 (by decide) (fun h50 => ?_) (fun h50 => ?_)
          · skip
            refine gl_iload_4 (pc := 58) C dX5_group_58 ?_
            refine gl_istore_4 (pc := 60) C dX5_group_60 ?_
            refine gl_iload_3 (pc := 62) C dX5_group_62 ?_
            refine gl_iload_6 (pc := 63) C dX5_group_63 ?_
            refine gl_ifeq (pc := 65) 72 C dX5_group_65 (by decide) (fun h65 => absurd h65 (gl_bn.mpr h45)) (fun h65 => ?_)
            refine gl_iconst (pc := 68) (nI 1) C dX5_group_68 (by decide) ?_
            refine gl_goto (pc := 69) 73 C dX5_group_69 (by decide) ?_
            first | with_reducible refine gl_iaddN (pc := 73) C dX5_group_73 ?_ | refine gl_iadd (pc := 73) C dX5_group_73 ?_
            refine gl_istore_3 (pc := 74) C dX5_group_74 ?_
            first | with_reducible refine gl_iincN_5 (pc := 75) gl_i1 C dX5_group_75 ?_ | refine gl_iinc_5 (pc := 75) C dX5_group_75 (gl_inc1 _) ?_
            refine gl_goto (pc := 78) 24 C dX5_group_78 (by decide) ?_
            exact gl_on (ih (trivial)) (gl_le_c (rfl) (gl_le_c (rfl) (gl_le_c (rfl) (gl_le_c (congrArg Value.int (by grind [sp_groups])) (gl_le_c (congrArg Value.int (by grind [sp_fog])) (gl_le_c (rfl) (gl_le_o (gl_le_n)))))))) (rfl)
          · skip
            refine gl_iload_5 (pc := 53) C dX5_group_53 ?_
            refine gl_goto (pc := 55) 60 C dX5_group_55 (by decide) ?_
            refine gl_istore_4 (pc := 60) C dX5_group_60 ?_
            refine gl_iload_3 (pc := 62) C dX5_group_62 ?_
            refine gl_iload_6 (pc := 63) C dX5_group_63 ?_
            refine gl_ifeq (pc := 65) 72 C dX5_group_65 (by decide) (fun h65 => absurd h65 (gl_bn.mpr h45)) (fun h65 => ?_)
            refine gl_iconst (pc := 68) (nI 1) C dX5_group_68 (by decide) ?_
            refine gl_goto (pc := 69) 73 C dX5_group_69 (by decide) ?_
            first | with_reducible refine gl_iaddN (pc := 73) C dX5_group_73 ?_ | refine gl_iadd (pc := 73) C dX5_group_73 ?_
            refine gl_istore_3 (pc := 74) C dX5_group_74 ?_
            first | with_reducible refine gl_iincN_5 (pc := 75) gl_i1 C dX5_group_75 ?_ | refine gl_iinc_5 (pc := 75) C dX5_group_75 (gl_inc1 _) ?_
            refine gl_goto (pc := 78) 24 C dX5_group_78 (by decide) ?_
            exact gl_on (ih (trivial)) (gl_le_c (rfl) (gl_le_c (rfl) (gl_le_c (rfl) (gl_le_c (congrArg Value.int (by grind [sp_groups])) (gl_le_c (congrArg Value.int (by grind [sp_fog])) (gl_le_c (rfl) (gl_le_o (gl_le_n)))))))) (rfl)
    · skip
      replace h10 := gl_bz.mp h10
      have hno : ¬ (¬ i < 0 ∧ sp_inr y (nI 0) (nI 3)) := fun q => h10 q.2
      refine gl_iconst (pc := 13) (-1) C dX5_group_13 (by decide) ?_
      exact gl_iret (pc := 14) C dX5_group_14 (by rw [pa_group, if_neg hno]) (rfl)
