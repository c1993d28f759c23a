set_option maxRecDepth 100000 in
set_option maxHeartbeats 4000000 in
theorem ctL_acts_cars (F : gl_F) {T T' : Nat → Int32} {zz : Int32} {v wy : Nat} (ev : lg_low (zz >>> (nI 5 &&& 31)) 10000000 = v) (ew : lg_low zz 24 = wy) (h6 : wy < 6) (ct : gl_Ct F LL yL_cars wsL_cars rmL_cars [.ref (gl_r F 126), .ref (gl_r F 129), .ref (gl_r F 130), .ref (gl_r F 131), .ref (gl_r F 132), .ref (gl_r F 133), .int (nI v), .int (nI wy)] T (some (.int (nI 1))) T') : gl_Ct F LL yL_acts wsL_acts rmL_acts [.ref (gl_r F 126), .ref (gl_r F 129), .ref (gl_r F 130), .ref (gl_r F 131), .ref (gl_r F 132), .ref (gl_r F 133), .int zz] T (some (.int (nI 1))) (T') := by
  refine gl_met (cc := cL_acts) (maxL := 11) (ret := some .boolean) [some (.ref (gl_r F 126)), some (.ref (gl_r F 129)), some (.ref (gl_r F 130)), some (.ref (gl_r F 131)), some (.ref (gl_r F 132)), some (.ref (gl_r F 133)), some (.int zz), none, none, none, none] (plainFor_of_name (by decide)) rfl ok_LL (by simp [Value.category]) (Nat.le_of_ble_eq_true rfl) rfl (fun V hV C => ?_)
  subst hV
  have hv : v < 10000000 := by rw [← ev]; exact lowA _ (by omega)
  have hwy : wy < 24 := by rw [← ew]; exact lowA _ (by omega)
  refine gl_iload_6 (pc := 0) C dL_acts_0 ?_
  refine gl_iconst (pc := 2) (nI 5) C dL_acts_2 (by decide) ?_
  refine gl_ishr (pc := 3) C dL_acts_3 ?_
  refine gl_ldc (pc := 4) (10000000) C dL_acts_4 (by decide +kernel) ?_
  refine gl_top (y := nI 10000000) rfl ?_
  refine gl_callSi (pc := 6) (ctL_low V.1 LL ok_LL _ _ (d := 10000000) (by omega) (by omega)) C dL_acts_6 gL_acts_L_low rfl hdL_low ⟨rfl, rfl, Nat.le_of_ble_eq_true rfl, Nat.le_of_ble_eq_true rfl⟩ rfl (Nat.le_of_ble_eq_true rfl) rfl ?_
  rw [ev]
  refine gl_istore_7 (pc := 9) C dL_acts_9 ?_
  refine gl_iload_6 (pc := 11) C dL_acts_11 ?_
  refine gl_bipush (pc := 13) (nI 24) C dL_acts_13 (by decide +kernel) ?_
  refine gl_callSi (pc := 15) (ctL_low V.1 LL ok_LL _ _ (d := 24) (by omega) (by omega)) C dL_acts_15 gL_acts_L_low rfl hdL_low ⟨rfl, rfl, Nat.le_of_ble_eq_true rfl, Nat.le_of_ble_eq_true rfl⟩ rfl (Nat.le_of_ble_eq_true rfl) rfl ?_
  rw [ew]
  refine gl_istore_8 (pc := 18) C dL_acts_18 ?_
  refine gl_iload_8 (pc := 20) C dL_acts_20 ?_
  refine gl_bipush (pc := 22) (nI 6) C dL_acts_22 (by decide +kernel) ?_
  refine gl_icmp_ge (pc := 24) 43 C dL_acts_24 (by decide) (fun h24 => absurd h24 (fun z => absurd ((nI_leI (by omega) (by omega)).mp z) (by omega))) (fun h24 => ?_)
  refine gl_aload_0 (pc := 27) C dL_acts_27 ?_
  refine gl_aload_1 (pc := 28) C dL_acts_28 ?_
  refine gl_aload_2 (pc := 29) C dL_acts_29 ?_
  refine gl_aload_3 (pc := 30) C dL_acts_30 ?_
  refine gl_aload_4 (pc := 31) C dL_acts_31 ?_
  refine gl_aload_5 (pc := 33) C dL_acts_33 ?_
  refine gl_iload_7 (pc := 35) C dL_acts_35 ?_
  refine gl_iload_8 (pc := 37) C dL_acts_37 ?_
  refine gl_callSi (pc := 39) (ct) C dL_acts_39 gL_acts_L_cars rfl hdL_cars ⟨rfl, rfl, Nat.le_of_ble_eq_true rfl, Nat.le_of_ble_eq_true rfl⟩ rfl (Nat.le_of_ble_eq_true rfl) rfl ?_
  exact gl_zret (pc := 42) C dL_acts_42 (by rfl) (rfl) (rfl)
set_option maxRecDepth 100000 in
set_option maxHeartbeats 4000000 in
theorem ctL_acts_same (F : gl_F) {n m t p q A : Nat} {G S : Nat → Int32} (I : qI n m t p q A G S) {zz : Int32} {v wy : Nat} (ev : lg_low (zz >>> (nI 5 &&& 31)) 10000000 = v) (ew : lg_low zz 24 = wy) (h6 : 6 ≤ wy) (h15 : wy < 15) (hfg : v % 16 = v / 16 % 16) : gl_Ct F LL yL_acts wsL_acts rmL_acts [.ref (gl_r F 126), .ref (gl_r F 129), .ref (gl_r F 130), .ref (gl_r F 131), .ref (gl_r F 132), .ref (gl_r F 133), .int zz] (ll G (en S n)) (some (.int (nI 1))) ((ll G (en S n))) := by
  refine gl_met (cc := cL_acts) (maxL := 11) (ret := some .boolean) [some (.ref (gl_r F 126)), some (.ref (gl_r F 129)), some (.ref (gl_r F 130)), some (.ref (gl_r F 131)), some (.ref (gl_r F 132)), some (.ref (gl_r F 133)), some (.int zz), none, none, none, none] (plainFor_of_name (by decide)) rfl ok_LL (by simp [Value.category]) (Nat.le_of_ble_eq_true rfl) rfl (fun V hV C => ?_)
  subst hV
  have hv : v < 10000000 := by rw [← ev]; exact lowA _ (by omega)
  have hwy : wy < 24 := by rw [← ew]; exact lowA _ (by omega)
  obtain ⟨w, hq, ht1, hA, hS, hp5, hq5, hp, hqq, z⟩ := id I
  obtain ⟨hn40, hm5, hn, hm, ht, hcar, hcal⟩ := id w
  have hno : ¬ sp_way (nI (v % 16)) (nI (v / 16 % 16)) := fun z => z.2.2 (by rw [hfg])
  refine gl_iload_6 (pc := 0) C dL_acts_0 ?_
  refine gl_iconst (pc := 2) (nI 5) C dL_acts_2 (by decide) ?_
  refine gl_ishr (pc := 3) C dL_acts_3 ?_
  refine gl_ldc (pc := 4) (10000000) C dL_acts_4 (by decide +kernel) ?_
  refine gl_top (y := nI 10000000) rfl ?_
  refine gl_callSi (pc := 6) (ctL_low V.1 LL ok_LL _ _ (d := 10000000) (by omega) (by omega)) C dL_acts_6 gL_acts_L_low rfl hdL_low ⟨rfl, rfl, Nat.le_of_ble_eq_true rfl, Nat.le_of_ble_eq_true rfl⟩ rfl (Nat.le_of_ble_eq_true rfl) rfl ?_
  rw [ev]
  refine gl_istore_7 (pc := 9) C dL_acts_9 ?_
  refine gl_iload_6 (pc := 11) C dL_acts_11 ?_
  refine gl_bipush (pc := 13) (nI 24) C dL_acts_13 (by decide +kernel) ?_
  refine gl_callSi (pc := 15) (ctL_low V.1 LL ok_LL _ _ (d := 24) (by omega) (by omega)) C dL_acts_15 gL_acts_L_low rfl hdL_low ⟨rfl, rfl, Nat.le_of_ble_eq_true rfl, Nat.le_of_ble_eq_true rfl⟩ rfl (Nat.le_of_ble_eq_true rfl) rfl ?_
  rw [ew]
  refine gl_istore_8 (pc := 18) C dL_acts_18 ?_
  refine gl_iload_8 (pc := 20) C dL_acts_20 ?_
  refine gl_bipush (pc := 22) (nI 6) C dL_acts_22 (by decide +kernel) ?_
  refine gl_icmp_ge (pc := 24) 43 C dL_acts_24 (by decide) (fun h24 => ?_) (fun h24 => absurd h24 (not_not_intro (nI_le (by omega) (by omega))))
  refine gl_iload_8 (pc := 43) C dL_acts_43 ?_
  refine gl_bipush (pc := 45) (nI 15) C dL_acts_45 (by decide +kernel) ?_
  refine gl_icmp_ge (pc := 47) 190 C dL_acts_47 (by decide) (fun h47 => absurd h47 (fun z => absurd ((nI_leI (by omega) (by omega)).mp z) (by omega))) (fun h47 => ?_)
  refine gl_iload_7 (pc := 50) C dL_acts_50 ?_
  refine gl_bipush (pc := 52) (nI 16) C dL_acts_52 (by decide +kernel) ?_
  refine gl_irem (pc := 54) C dL_acts_54 (by decide) ?_
  refine gl_top (pk_rem (by omega) (by omega) (by omega)) ?_
  refine gl_istore_9 (pc := 55) C dL_acts_55 ?_
  refine gl_iload_7 (pc := 57) C dL_acts_57 ?_
  refine gl_bipush (pc := 59) (nI 16) C dL_acts_59 (by decide +kernel) ?_
  refine gl_idiv (pc := 61) C dL_acts_61 (by decide) ?_
  refine gl_top (pk_div (by omega) (by omega) (by omega)) ?_
  refine gl_bipush (pc := 62) (nI 16) C dL_acts_62 (by decide +kernel) ?_
  refine gl_irem (pc := 64) C dL_acts_64 (by decide) ?_
  refine gl_top (pk_rem (by omega) (by omega) (by omega)) ?_
  refine gl_istore_10 (pc := 65) C dL_acts_65 ?_
  refine gl_iload_9 (pc := 67) C dL_acts_67 ?_
  refine gl_iload_10 (pc := 69) C dL_acts_69 ?_
  refine gl_icmp_ne (pc := 71) 92 C dL_acts_71 (by decide) (fun h71 => absurd h71 (not_not_intro (by rw [hfg]))) (fun h71 => ?_)
  refine gl_aload_0 (pc := 74) C dL_acts_74 ?_
  refine gl_iload_9 (pc := 75) C dL_acts_75 ?_
  refine gl_iload_10 (pc := 77) C dL_acts_77 ?_
  refine gl_callVi (pc := 79) (gl_upC (ctX4_call V.1 w (by omega) hS hp5 hp hq5 hqq (nI (v % 16)) (nI (v / 16 % 16)))) C dL_acts_79 gL_acts_X4_call rfl hdX4_call ⟨rfl, rfl, Nat.le_of_ble_eq_true rfl, Nat.le_of_ble_eq_true rfl⟩ rfl (Nat.le_of_ble_eq_true rfl) rfl rfl rfl ?_
  refine gl_mem (congrArg (fun z => ll z _) (if_neg (fun z => hno z.1))) ?_
  refine gl_top ((if_neg hno : pa_call n (nI (v % 16)) (nI (v / 16 % 16)) = -1)) ?_
  refine gl_iconst (pc := 82) (-1) C dL_acts_82 (by decide) ?_
  refine gl_icmp_ne (pc := 83) 90 C dL_acts_83 (by decide) (fun h83 => absurd h83 (not_not_intro rfl)) (fun h83 => ?_)
  refine gl_iconst (pc := 86) (nI 1) C dL_acts_86 (by decide) ?_
  refine gl_goto (pc := 87) 91 C dL_acts_87 (by decide) ?_
  exact gl_zret (pc := 91) C dL_acts_91 (by rfl) (rfl) (rfl)
set_option maxRecDepth 100000 in
set_option maxHeartbeats 4000000 in
theorem ctL_acts_full (F : gl_F) {n m t p q A : Nat} {G S : Nat → Int32} (I : qI n m t p q A G S) {zz : Int32} {v wy : Nat} (ev : lg_low (zz >>> (nI 5 &&& 31)) 10000000 = v) (ew : lg_low zz 24 = wy) (h6 : 6 ≤ wy) (h15 : wy < 15) (hfg : ¬ v % 16 = v / 16 % 16) (h40 : n = 40) : gl_Ct F LL yL_acts wsL_acts rmL_acts [.ref (gl_r F 126), .ref (gl_r F 129), .ref (gl_r F 130), .ref (gl_r F 131), .ref (gl_r F 132), .ref (gl_r F 133), .int zz] (ll G (en S n)) (some (.int (nI 1))) ((ll G (en S n))) := by
  refine gl_met (cc := cL_acts) (maxL := 11) (ret := some .boolean) [some (.ref (gl_r F 126)), some (.ref (gl_r F 129)), some (.ref (gl_r F 130)), some (.ref (gl_r F 131)), some (.ref (gl_r F 132)), some (.ref (gl_r F 133)), some (.int zz), none, none, none, none] (plainFor_of_name (by decide)) rfl ok_LL (by simp [Value.category]) (Nat.le_of_ble_eq_true rfl) rfl (fun V hV C => ?_)
  subst hV
  have hv : v < 10000000 := by rw [← ev]; exact lowA _ (by omega)
  have hwy : wy < 24 := by rw [← ew]; exact lowA _ (by omega)
  obtain ⟨w, hq, ht1, hA, hS, hp5, hq5, hp, hqq, z⟩ := id I
  obtain ⟨hn40, hm5, hn, hm, ht, hcar, hcal⟩ := id w
  have hway : sp_way (nI (v % 16)) (nI (v / 16 % 16)) := ⟨isf_n (by omega), isf_n (by omega), fun z => hfg ((nI_eq (by omega) (by omega)).mp z)⟩
  refine gl_iload_6 (pc := 0) C dL_acts_0 ?_
  refine gl_iconst (pc := 2) (nI 5) C dL_acts_2 (by decide) ?_
  refine gl_ishr (pc := 3) C dL_acts_3 ?_
  refine gl_ldc (pc := 4) (10000000) C dL_acts_4 (by decide +kernel) ?_
  refine gl_top (y := nI 10000000) rfl ?_
  refine gl_callSi (pc := 6) (ctL_low V.1 LL ok_LL _ _ (d := 10000000) (by omega) (by omega)) C dL_acts_6 gL_acts_L_low rfl hdL_low ⟨rfl, rfl, Nat.le_of_ble_eq_true rfl, Nat.le_of_ble_eq_true rfl⟩ rfl (Nat.le_of_ble_eq_true rfl) rfl ?_
  rw [ev]
  refine gl_istore_7 (pc := 9) C dL_acts_9 ?_
  refine gl_iload_6 (pc := 11) C dL_acts_11 ?_
  refine gl_bipush (pc := 13) (nI 24) C dL_acts_13 (by decide +kernel) ?_
  refine gl_callSi (pc := 15) (ctL_low V.1 LL ok_LL _ _ (d := 24) (by omega) (by omega)) C dL_acts_15 gL_acts_L_low rfl hdL_low ⟨rfl, rfl, Nat.le_of_ble_eq_true rfl, Nat.le_of_ble_eq_true rfl⟩ rfl (Nat.le_of_ble_eq_true rfl) rfl ?_
  rw [ew]
  refine gl_istore_8 (pc := 18) C dL_acts_18 ?_
  refine gl_iload_8 (pc := 20) C dL_acts_20 ?_
  refine gl_bipush (pc := 22) (nI 6) C dL_acts_22 (by decide +kernel) ?_
  refine gl_icmp_ge (pc := 24) 43 C dL_acts_24 (by decide) (fun h24 => ?_) (fun h24 => absurd h24 (not_not_intro (nI_le (by omega) (by omega))))
  refine gl_iload_8 (pc := 43) C dL_acts_43 ?_
  refine gl_bipush (pc := 45) (nI 15) C dL_acts_45 (by decide +kernel) ?_
  refine gl_icmp_ge (pc := 47) 190 C dL_acts_47 (by decide) (fun h47 => absurd h47 (fun z => absurd ((nI_leI (by omega) (by omega)).mp z) (by omega))) (fun h47 => ?_)
  refine gl_iload_7 (pc := 50) C dL_acts_50 ?_
  refine gl_bipush (pc := 52) (nI 16) C dL_acts_52 (by decide +kernel) ?_
  refine gl_irem (pc := 54) C dL_acts_54 (by decide) ?_
  refine gl_top (pk_rem (by omega) (by omega) (by omega)) ?_
  refine gl_istore_9 (pc := 55) C dL_acts_55 ?_
  refine gl_iload_7 (pc := 57) C dL_acts_57 ?_
  refine gl_bipush (pc := 59) (nI 16) C dL_acts_59 (by decide +kernel) ?_
  refine gl_idiv (pc := 61) C dL_acts_61 (by decide) ?_
  refine gl_top (pk_div (by omega) (by omega) (by omega)) ?_
  refine gl_bipush (pc := 62) (nI 16) C dL_acts_62 (by decide +kernel) ?_
  refine gl_irem (pc := 64) C dL_acts_64 (by decide) ?_
  refine gl_top (pk_rem (by omega) (by omega) (by omega)) ?_
  refine gl_istore_10 (pc := 65) C dL_acts_65 ?_
  refine gl_iload_9 (pc := 67) C dL_acts_67 ?_
  refine gl_iload_10 (pc := 69) C dL_acts_69 ?_
  refine gl_icmp_ne (pc := 71) 92 C dL_acts_71 (by decide) (fun h71 => ?_) (fun h71 => absurd h71 (fun z => hfg ((nI_eq (by omega) (by omega)).mp z)))
  refine gl_aload_1 (pc := 92) C dL_acts_92 ?_
  refine gl_iconst (pc := 93) (nI 2) C dL_acts_93 (by decide) ?_
  refine gl_iald (pc := 94) _ C dL_acts_94 rfl rfl (by omega) ?_
  refine gl_top (ll_A.trans ((en_i (by omega)).trans hn)) ?_
  refine gl_bipush (pc := 95) (nI 40) C dL_acts_95 (by decide +kernel) ?_
  refine gl_icmp_ne (pc := 97) 119 C dL_acts_97 (by decide) (fun h97 => absurd h97 (not_not_intro (by rw [h40]))) (fun h97 => ?_)
  refine gl_aload_0 (pc := 100) C dL_acts_100 ?_
  refine gl_iload_9 (pc := 101) C dL_acts_101 ?_
  refine gl_iload_10 (pc := 103) C dL_acts_103 ?_
  refine gl_callVi (pc := 105) (gl_upC (ctX4_call V.1 w (by omega) hS hp5 hp hq5 hqq (nI (v % 16)) (nI (v / 16 % 16)))) C dL_acts_105 gL_acts_X4_call rfl hdX4_call ⟨rfl, rfl, Nat.le_of_ble_eq_true rfl, Nat.le_of_ble_eq_true rfl⟩ rfl (Nat.le_of_ble_eq_true rfl) rfl rfl rfl ?_
  refine gl_mem (congrArg (fun z => ll z _) (if_neg (fun z => z.2 h40))) ?_
  refine gl_top (((if_pos hway).trans (if_pos h40) : pa_call n (nI (v % 16)) (nI (v / 16 % 16)) = -3)) ?_
  refine gl_bipush (pc := 108) (-3) C dL_acts_108 (by decide +kernel) ?_
  refine gl_icmp_ne (pc := 110) 117 C dL_acts_110 (by decide) (fun h110 => absurd h110 (not_not_intro rfl)) (fun h110 => ?_)
  refine gl_iconst (pc := 113) (nI 1) C dL_acts_113 (by decide) ?_
  refine gl_goto (pc := 114) 118 C dL_acts_114 (by decide) ?_
  exact gl_zret (pc := 118) C dL_acts_118 (by rfl) (rfl) (rfl)
set_option maxRecDepth 100000 in
set_option maxHeartbeats 4000000 in
theorem ctL_acts_call (F : gl_F) {n m t p q A : Nat} {G S : Nat → Int32} (I : qI n m t p q A G S) {zz : Int32} {v wy : Nat} (ev : lg_low (zz >>> (nI 5 &&& 31)) 10000000 = v) (ew : lg_low zz 24 = wy) (h6 : 6 ≤ wy) (h15 : wy < 15) (hfg : ¬ v % 16 = v / 16 % 16) (h40 : n < 40) (hA1 : A + 1 ≤ 70) : gl_Ct F LL yL_acts wsL_acts rmL_acts [.ref (gl_r F 126), .ref (gl_r F 129), .ref (gl_r F 130), .ref (gl_r F 131), .ref (gl_r F 132), .ref (gl_r F 133), .int zz] (ll G (en S n)) (some (.int (nI 1))) ((ll (sp_blk (sp_keepC G p q) 0 (sp_call S n m t (nI (v % 16)) (nI (v / 16 % 16)))) (en (sp_call S n m t (nI (v % 16)) (nI (v / 16 % 16))) (n + 1)))) := by
  refine gl_met (cc := cL_acts) (maxL := 11) (ret := some .boolean) [some (.ref (gl_r F 126)), some (.ref (gl_r F 129)), some (.ref (gl_r F 130)), some (.ref (gl_r F 131)), some (.ref (gl_r F 132)), some (.ref (gl_r F 133)), some (.int zz), none, none, none, none] (plainFor_of_name (by decide)) rfl ok_LL (by simp [Value.category]) (Nat.le_of_ble_eq_true rfl) rfl (fun V hV C => ?_)
  subst hV
  have hv : v < 10000000 := by rw [← ev]; exact lowA _ (by omega)
  have hwy : wy < 24 := by rw [← ew]; exact lowA _ (by omega)
  obtain ⟨w, hq, ht1, hA, hS, hp5, hq5, hp, hqq, z⟩ := id I
  obtain ⟨hn40, hm5, hn, hm, ht, hcar, hcal⟩ := id w
  have hway : sp_way (nI (v % 16)) (nI (v / 16 % 16)) := ⟨isf_n (by omega), isf_n (by omega), fun z => hfg ((nI_eq (by omega) (by omega)).mp z)⟩
  have e2 : (sp_addK1 S n (nI (v % 16)) (nI (v / 16 % 16)) (nI t)) 2 = nI n := (addK1_o (fun w hw => by unfold iK; omega)).trans hn
  have wK := sp_addK_W w h40 (fl_n (f := v % 16) (by omega)) (fl_n (f := v / 16 % 16) (by omega)) (tk := nI t)
  have qK := q_addK (q_up (A' := A + 1) (by omega) (by omega) hq) (by omega) (f := v % 16) (g := v / 16 % 16) (t := t) (by omega) (by omega) (by omega)
  obtain ⟨a0, a1, a2, -⟩ := addK1_at (M := S) (n := n) (f := (nI (v % 16))) (g := (nI (v / 16 % 16))) (tk := nI t)
  have b0 : (sp_addK S n (nI (v % 16)) (nI (v / 16 % 16)) (nI t)) (iK n 0) = (nI (v % 16)) := (gl_upd_ne (by unfold iK; omega)).trans a0
  have b1 : (sp_addK S n (nI (v % 16)) (nI (v / 16 % 16)) (nI t)) (iK n 1) = (nI (v / 16 % 16)) := (gl_upd_ne (by unfold iK; omega)).trans a1
  have e0 : (sp_addK S n (nI (v % 16)) (nI (v / 16 % 16)) (nI t)) (iK n 2) = 0 := ((gl_upd_ne (by unfold iK; omega)).trans a2).trans nI_0'
  have ecall : sp_give (sp_addK S n (nI (v % 16)) (nI (v / 16 % 16)) (nI t)) n (sp_best (sp_addK S n (nI (v % 16)) (nI (v / 16 % 16)) (nI t)) t ((sp_addK S n (nI (v % 16)) (nI (v / 16 % 16)) (nI t)) (iK n 0)) ((sp_addK S n (nI (v % 16)) (nI (v / 16 % 16)) (nI t)) (iK n 1)) (n + 1) m).1 = (sp_call S n m t (nI (v % 16)) (nI (v / 16 % 16))) := by rw [b0, b1, sp_addK_best m hm5]; rfl
  have e3 : (sp_call S n m t (nI (v % 16)) (nI (v / 16 % 16))) 2 = nI (n + 1) := by rw [← ecall]; exact (sp_give_W wK (Nat.lt_succ_self n) (by rw [e0]; decide) _).2.2.1
  refine gl_iload_6 (pc := 0) C dL_acts_0 ?_
  refine gl_iconst (pc := 2) (nI 5) C dL_acts_2 (by decide) ?_
  refine gl_ishr (pc := 3) C dL_acts_3 ?_
  refine gl_ldc (pc := 4) (10000000) C dL_acts_4 (by decide +kernel) ?_
  refine gl_top (y := nI 10000000) rfl ?_
  refine gl_callSi (pc := 6) (ctL_low V.1 LL ok_LL _ _ (d := 10000000) (by omega) (by omega)) C dL_acts_6 gL_acts_L_low rfl hdL_low ⟨rfl, rfl, Nat.le_of_ble_eq_true rfl, Nat.le_of_ble_eq_true rfl⟩ rfl (Nat.le_of_ble_eq_true rfl) rfl ?_
  rw [ev]
  refine gl_istore_7 (pc := 9) C dL_acts_9 ?_
  refine gl_iload_6 (pc := 11) C dL_acts_11 ?_
  refine gl_bipush (pc := 13) (nI 24) C dL_acts_13 (by decide +kernel) ?_
  refine gl_callSi (pc := 15) (ctL_low V.1 LL ok_LL _ _ (d := 24) (by omega) (by omega)) C dL_acts_15 gL_acts_L_low rfl hdL_low ⟨rfl, rfl, Nat.le_of_ble_eq_true rfl, Nat.le_of_ble_eq_true rfl⟩ rfl (Nat.le_of_ble_eq_true rfl) rfl ?_
  rw [ew]
  refine gl_istore_8 (pc := 18) C dL_acts_18 ?_
  refine gl_iload_8 (pc := 20) C dL_acts_20 ?_
  refine gl_bipush (pc := 22) (nI 6) C dL_acts_22 (by decide +kernel) ?_
  refine gl_icmp_ge (pc := 24) 43 C dL_acts_24 (by decide) (fun h24 => ?_) (fun h24 => absurd h24 (not_not_intro (nI_le (by omega) (by omega))))
  refine gl_iload_8 (pc := 43) C dL_acts_43 ?_
  refine gl_bipush (pc := 45) (nI 15) C dL_acts_45 (by decide +kernel) ?_
  refine gl_icmp_ge (pc := 47) 190 C dL_acts_47 (by decide) (fun h47 => absurd h47 (fun z => absurd ((nI_leI (by omega) (by omega)).mp z) (by omega))) (fun h47 => ?_)
  refine gl_iload_7 (pc := 50) C dL_acts_50 ?_
  refine gl_bipush (pc := 52) (nI 16) C dL_acts_52 (by decide +kernel) ?_
  refine gl_irem (pc := 54) C dL_acts_54 (by decide) ?_
  refine gl_top (pk_rem (by omega) (by omega) (by omega)) ?_
  refine gl_istore_9 (pc := 55) C dL_acts_55 ?_
  refine gl_iload_7 (pc := 57) C dL_acts_57 ?_
  refine gl_bipush (pc := 59) (nI 16) C dL_acts_59 (by decide +kernel) ?_
  refine gl_idiv (pc := 61) C dL_acts_61 (by decide) ?_
  refine gl_top (pk_div (by omega) (by omega) (by omega)) ?_
  refine gl_bipush (pc := 62) (nI 16) C dL_acts_62 (by decide +kernel) ?_
  refine gl_irem (pc := 64) C dL_acts_64 (by decide) ?_
  refine gl_top (pk_rem (by omega) (by omega) (by omega)) ?_
  refine gl_istore_10 (pc := 65) C dL_acts_65 ?_
  refine gl_iload_9 (pc := 67) C dL_acts_67 ?_
  refine gl_iload_10 (pc := 69) C dL_acts_69 ?_
  refine gl_icmp_ne (pc := 71) 92 C dL_acts_71 (by decide) (fun h71 => ?_) (fun h71 => absurd h71 (fun z => hfg ((nI_eq (by omega) (by omega)).mp z)))
  refine gl_aload_1 (pc := 92) C dL_acts_92 ?_
  refine gl_iconst (pc := 93) (nI 2) C dL_acts_93 (by decide) ?_
  refine gl_iald (pc := 94) _ C dL_acts_94 rfl rfl (by omega) ?_
  refine gl_top (ll_A.trans ((en_i (by omega)).trans hn)) ?_
  refine gl_bipush (pc := 95) (nI 40) C dL_acts_95 (by decide +kernel) ?_
  refine gl_icmp_ne (pc := 97) 119 C dL_acts_97 (by decide) (fun h97 => ?_) (fun h97 => absurd h97 (fun z => absurd ((nI_eq (by omega) (by omega)).mp z) (by omega)))
  refine gl_aload_4 (pc := 119) C dL_acts_119 ?_
  refine gl_aload_1 (pc := 121) C dL_acts_121 ?_
  refine gl_iconst (pc := 122) (nI 2) C dL_acts_122 (by decide) ?_
  refine gl_iald (pc := 123) _ C dL_acts_123 rfl rfl (by omega) ?_
  refine gl_top (ll_A.trans ((en_i (by omega)).trans hn)) ?_
  refine gl_iload_9 (pc := 124) C dL_acts_124 ?_
  refine gl_iload_10 (pc := 126) C dL_acts_126 ?_
  refine gl_iconst (pc := 128) (nI 4) C dL_acts_128 (by decide) ?_
  refine gl_ishl (pc := 129) C dL_acts_129 ?_
  refine gl_ior (pc := 130) C dL_acts_130 ?_
  refine gl_i2l (pc := 131) C dL_acts_131 ?_
  refine gl_aload_1 (pc := 132) C dL_acts_132 ?_
  refine gl_iconst (pc := 133) (nI 0) C dL_acts_133 (by decide) ?_
  refine gl_iald (pc := 134) _ C dL_acts_134 rfl rfl (by omega) ?_
  refine gl_top (ll_A.trans ((en_i (by omega)).trans ht)) ?_
  refine gl_i2l (pc := 135) C dL_acts_135 ?_
  refine gl_bipush (pc := 136) (nI 24) C dL_acts_136 (by decide +kernel) ?_
  refine gl_lshl (pc := 138) C dL_acts_138 ?_
  refine gl_lor (pc := 139) C dL_acts_139 ?_
  refine gl_last (pc := 140) _ C dL_acts_140 rfl rfl (by omega) ?_
  refine gl_mem (ll_u2.trans (congrArg (ll G) (lg_new_mem (f := v % 16) (g := v / 16 % 16) h40 (by omega) (by omega) (by omega)))) ?_
  refine gl_aload_5 (pc := 141) C dL_acts_141 ?_
  refine gl_aload_1 (pc := 143) C dL_acts_143 ?_
  refine gl_iconst (pc := 144) (nI 2) C dL_acts_144 (by decide) ?_
  refine gl_iald (pc := 145) _ C dL_acts_145 rfl rfl (by omega) ?_
  refine gl_top (ll_A.trans ((en_i (by omega)).trans e2)) ?_
  refine gl_lconst (pc := 146) (0) C dL_acts_146 (by decide) ?_
  refine gl_last (pc := 147) _ C dL_acts_147 rfl rfl (by omega) ?_
  refine gl_mem (ll_u2.trans (congrArg (ll G) (lg_zero_mem h40))) ?_
  refine gl_aload_1 (pc := 148) C dL_acts_148 ?_
  refine gl_iconst (pc := 149) (nI 2) C dL_acts_149 (by decide) ?_
  refine gl_dup2 (pc := 150) C dL_acts_150 ?_
  refine gl_iald (pc := 151) _ C dL_acts_151 rfl rfl (by omega) ?_
  refine gl_top (ll_A.trans ((en_i (by omega)).trans e2)) ?_
  refine gl_iconst (pc := 152) (nI 1) C dL_acts_152 (by decide) ?_
  first | with_reducible refine gl_iaddN (pc := 153) C dL_acts_153 ?_ | refine gl_iadd (pc := 153) C dL_acts_153 ?_
  refine gl_iast (pc := 154) _ C dL_acts_154 rfl rfl (by omega) ?_
  refine gl_mem (ll_u.trans (congrArg (ll G) (en_ui (by omega)))) ?_
  refine gl_aload_1 (pc := 155) C dL_acts_155 ?_
  refine gl_aload_2 (pc := 156) C dL_acts_156 ?_
  refine gl_aload_3 (pc := 157) C dL_acts_157 ?_
  refine gl_aload_4 (pc := 158) C dL_acts_158 ?_
  refine gl_aload_1 (pc := 160) C dL_acts_160 ?_
  refine gl_iconst (pc := 161) (nI 2) C dL_acts_161 (by decide) ?_
  refine gl_iald (pc := 162) _ C dL_acts_162 rfl rfl (by omega) ?_
  refine gl_top (ll_A.trans ((en_i (by omega)).trans (gl_upd_eq (x := nI (n + 1))))) ?_
  refine gl_iconst (pc := 163) (nI 1) C dL_acts_163 (by decide) ?_
  refine gl_isub (pc := 164) C dL_acts_164 ?_
  refine gl_top ((pk_sub (by omega)).trans (congrArg nI (Nat.add_sub_cancel n 1))) ?_
  refine gl_callSv (pc := 165) (gl_upA (F := V.1) (ctL_gives (gl_sh V.1 gl_eA) wK (by omega) qK (Nat.lt_succ_self n) e0)) C dL_acts_165 gL_acts_L_gives rfl hdL_gives ⟨rfl, rfl, Nat.le_of_ble_eq_true rfl, Nat.le_of_ble_eq_true rfl⟩ rfl (Nat.le_of_ble_eq_true rfl) rfl ?_
  refine gl_mem (congrArg (fun z => ll G (en z (n + 1))) ecall) ?_
  refine gl_aload_0 (pc := 168) C dL_acts_168 ?_
  refine gl_iload_9 (pc := 169) C dL_acts_169 ?_
  refine gl_iload_10 (pc := 171) C dL_acts_171 ?_
  refine gl_callVi (pc := 173) (gl_upC (ctX4_call V.1 w (by omega) hS hp5 hp hq5 hqq (nI (v % 16)) (nI (v / 16 % 16)))) C dL_acts_173 gL_acts_X4_call rfl hdX4_call ⟨rfl, rfl, Nat.le_of_ble_eq_true rfl, Nat.le_of_ble_eq_true rfl⟩ rfl (Nat.le_of_ble_eq_true rfl) rfl rfl rfl ?_
  refine gl_mem (congrArg (fun z => ll z _) (if_pos ⟨hway, by omega⟩)) ?_
  refine gl_top (((if_pos hway).trans (if_neg (by omega)) : pa_call n (nI (v % 16)) (nI (v / 16 % 16)) = nI n)) ?_
  refine gl_aload_1 (pc := 176) C dL_acts_176 ?_
  refine gl_iconst (pc := 177) (nI 2) C dL_acts_177 (by decide) ?_
  refine gl_iald (pc := 178) _ C dL_acts_178 rfl rfl (by omega) ?_
  refine gl_top (ll_A.trans ((en_i (by omega)).trans e3)) ?_
  refine gl_iconst (pc := 179) (nI 1) C dL_acts_179 (by decide) ?_
  refine gl_isub (pc := 180) C dL_acts_180 ?_
  refine gl_top ((pk_sub (by omega)).trans (congrArg nI (Nat.add_sub_cancel n 1))) ?_
  refine gl_icmp_ne (pc := 181) 188 C dL_acts_181 (by decide) (fun h181 => absurd h181 (not_not_intro rfl)) (fun h181 => ?_)
  refine gl_iconst (pc := 184) (nI 1) C dL_acts_184 (by decide) ?_
  refine gl_goto (pc := 185) 189 C dL_acts_185 (by decide) ?_
  exact gl_zret (pc := 189) C dL_acts_189 (by rfl) (rfl) (rfl)
set_option maxRecDepth 100000 in
set_option maxHeartbeats 4000000 in
theorem ctL_acts_pass (F : gl_F) {n m t p q A : Nat} {G S : Nat → Int32} (I : qI n m t p q A G S) {zz : Int32} {v wy : Nat} (ev : lg_low (zz >>> (nI 5 &&& 31)) 10000000 = v) (ew : lg_low zz 24 = wy) (h15 : 15 ≤ wy) : gl_Ct F LL yL_acts wsL_acts rmL_acts [.ref (gl_r F 126), .ref (gl_r F 129), .ref (gl_r F 130), .ref (gl_r F 131), .ref (gl_r F 132), .ref (gl_r F 133), .int zz] (ll G (en S n)) (some (.int (nI 1))) ((ll (sp_blk (sp_keepC G p q) 0 (sp_run S t n m (1 + v % lgD v))) (en (sp_run S t n m (1 + v % lgD v)) n))) := by
  refine gl_met (cc := cL_acts) (maxL := 11) (ret := some .boolean) [some (.ref (gl_r F 126)), some (.ref (gl_r F 129)), some (.ref (gl_r F 130)), some (.ref (gl_r F 131)), some (.ref (gl_r F 132)), some (.ref (gl_r F 133)), some (.int zz), none, none, none, none] (plainFor_of_name (by decide)) rfl ok_LL (by simp [Value.category]) (Nat.le_of_ble_eq_true rfl) rfl (fun V hV C => ?_)
  subst hV
  have hv : v < 10000000 := by rw [← ev]; exact lowA _ (by omega)
  have hwy : wy < 24 := by rw [← ew]; exact lowA _ (by omega)
  obtain ⟨w, hq, ht1, hA, hS, hp5, hq5, hp, hqq, z⟩ := id I
  obtain ⟨hn40, hm5, hn, hm, ht, hcar, hcal⟩ := id w
  have hDl := lgD_lt v
  have hml : v % lgD v < lgD v := Nat.mod_lt _ hDl.1
  have hcN : cN (nI (1 + v % lgD v)) = (1 + v % lgD v) := nI_clamp (by omega)
  have hin : sp_inr (nI (1 + v % lgD v)) (nI 1) (nI 200) := inr_n (by omega) (by omega) (by omega)
  have htk : ¬ nI 20000 < nI t + nI (1 + v % lgD v) := by rw [nI_add, nI_ltI (by omega) (by omega)]; omega
  have c208 : gl_G LL (some (.int (nI 1))) ((ll (sp_blk (sp_keepC G p q) 0 (sp_run S t n m (1 + v % lgD v))) (en (sp_run S t n m (1 + v % lgD v)) n))) V 208 [some (.ref (gl_r V.1 126)), some (.ref (gl_r V.1 129)), some (.ref (gl_r V.1 130)), some (.ref (gl_r V.1 131)), some (.ref (gl_r V.1 132)), some (.ref (gl_r V.1 133)), some (.int zz), some (.int (nI v)), some (.int (nI wy)), none, none] [.int (nI (lgD v)), .int (nI v), .int (nI 1)] (ll G (en S n)) := by
    refine gl_irem (pc := 208) C dL_acts_208 (nI_ne0 (lgD_lt v).1 (by have := lgD_lt v; omega)) ?_
    refine gl_top (pk_rem (by omega) (lgD_lt v).1 (by have := lgD_lt v; omega)) ?_
    first | with_reducible refine gl_iaddN (pc := 209) C dL_acts_209 ?_ | refine gl_iadd (pc := 209) C dL_acts_209 ?_
    refine gl_istore_9 (pc := 210) C dL_acts_210 ?_
    refine gl_iconst (pc := 212) (nI 0) C dL_acts_212 (by decide) ?_
    refine gl_istore_10 (pc := 213) C dL_acts_213 ?_
    refine gl_loop (pc := 215) (n := (1 + v % lgD v)) (fun j => [some (.ref (gl_r V.1 126)), some (.ref (gl_r V.1 129)), some (.ref (gl_r V.1 130)), some (.ref (gl_r V.1 131)), some (.ref (gl_r V.1 132)), some (.ref (gl_r V.1 133)), some (.int zz), some (.int (nI v)), some (.int (nI wy)), some (.int (nI (1 + v % lgD v))), some (.int (nI j))]) (fun j => (ll G (en (sp_run S t n m j) n))) (fun j => True) 0 (Nat.zero_le _) (trivial) (gl_le_c (rfl) (gl_le_c (rfl) (gl_le_c (rfl) (gl_le_c (rfl) (gl_le_c (rfl) (gl_le_c (rfl) (gl_le_c (rfl) (gl_le_c (rfl) (gl_le_c (rfl) (gl_le_c (rfl) (gl_le_c (rfl) (gl_le_n)))))))))))) (rfl) (fun hI => ?_) (fun j hj hI ih => ?_)
    · skip
      refine gl_iload_10 (pc := 215) C dL_acts_215 ?_
      refine gl_iload_9 (pc := 217) C dL_acts_217 ?_
      refine gl_icmp_ge (pc := 219) 238 C dL_acts_219 (by decide) (fun h219 => ?_) (fun h219 => absurd h219 (gl_xge))
      refine gl_aload_0 (pc := 238) C dL_acts_238 ?_
      refine gl_iload_9 (pc := 239) C dL_acts_239 ?_
      refine gl_callVi (pc := 241) (gl_upC (ctX4_pass V.1 w (by omega) hS hp5 hp hq5 hqq (nI (1 + v % lgD v)))) C dL_acts_241 gL_acts_X4_pass rfl hdX4_pass ⟨rfl, rfl, Nat.le_of_ble_eq_true rfl, Nat.le_of_ble_eq_true rfl⟩ rfl (Nat.le_of_ble_eq_true rfl) rfl rfl rfl ?_
      refine gl_mem (congrArg (fun z => ll z _) ((if_pos ⟨hin, htk⟩).trans (by rw [hcN]))) ?_
      refine gl_top (((if_pos hin).trans ((if_neg htk).trans (by rw [hcN])) : pa_pass S n m t (nI (1 + v % lgD v)) = sp_in (sp_run S t n m (1 + v % lgD v)) (nI 3) n)) ?_
      refine gl_aload_1 (pc := 244) C dL_acts_244 ?_
      refine gl_aload_4 (pc := 245) C dL_acts_245 ?_
      refine gl_iconst (pc := 247) (-1) C dL_acts_247 (by decide) ?_
      refine gl_iconst (pc := 248) (nI 3) C dL_acts_248 (by decide) ?_
      refine gl_callSi (pc := 249) (gl_upA (F := V.1) (ctL_those_all (gl_sh V.1 gl_eA) hn40 (sp_run_W w (1 + v % lgD v)).2.2.1 (q_run hq hm5 (1 + v % lgD v) (by omega)) (nI 3))) C dL_acts_249 gL_acts_L_those rfl hdL_those ⟨rfl, rfl, Nat.le_of_ble_eq_true rfl, Nat.le_of_ble_eq_true rfl⟩ rfl (Nat.le_of_ble_eq_true rfl) rfl ?_
      refine gl_icmp_ne (pc := 252) 259 C dL_acts_252 (by decide) (fun h252 => absurd h252 (not_not_intro rfl)) (fun h252 => ?_)
      refine gl_iconst (pc := 255) (nI 1) C dL_acts_255 (by decide) ?_
      refine gl_goto (pc := 256) 260 C dL_acts_256 (by decide) ?_
      exact gl_zret (pc := 260) C dL_acts_260 (by rfl) (rfl) (rfl)
    · skip
      refine gl_iload_10 (pc := 215) C dL_acts_215 ?_
      refine gl_iload_9 (pc := 217) C dL_acts_217 ?_
      refine gl_icmp_ge (pc := 219) 238 C dL_acts_219 (by decide) (fun h219 => absurd h219 (nI_ge hj (by omega))) (fun h219 => ?_)
      refine gl_aload_1 (pc := 222) C dL_acts_222 ?_
      refine gl_aload_2 (pc := 223) C dL_acts_223 ?_
      refine gl_aload_3 (pc := 224) C dL_acts_224 ?_
      refine gl_aload_4 (pc := 225) C dL_acts_225 ?_
      refine gl_aload_5 (pc := 227) C dL_acts_227 ?_
      refine gl_callSv (pc := 229) (gl_upA (F := V.1) (ctL_tick (gl_sh V.1 gl_eA) (sp_run_W w j) (by omega) (q_run hq hm5 j (by omega)))) C dL_acts_229 gL_acts_L_tick rfl hdL_tick ⟨rfl, rfl, Nat.le_of_ble_eq_true rfl, Nat.le_of_ble_eq_true rfl⟩ rfl (Nat.le_of_ble_eq_true rfl) rfl ?_
      first | with_reducible refine gl_iincN_10 (pc := 232) gl_i1 C dL_acts_232 ?_ | refine gl_iinc_10 (pc := 232) C dL_acts_232 (gl_inc1 _) ?_
      refine gl_goto (pc := 235) 215 C dL_acts_235 (by decide) ?_
      exact gl_on (ih (trivial)) (gl_le_c (rfl) (gl_le_c (rfl) (gl_le_c (rfl) (gl_le_c (rfl) (gl_le_c (rfl) (gl_le_c (rfl) (gl_le_c (rfl) (gl_le_c (rfl) (gl_le_c (rfl) (gl_le_c (rfl) (gl_le_c (rfl) (gl_le_n)))))))))))) (rfl)
  refine gl_iload_6 (pc := 0) C dL_acts_0 ?_
  refine gl_iconst (pc := 2) (nI 5) C dL_acts_2 (by decide) ?_
  refine gl_ishr (pc := 3) C dL_acts_3 ?_
  refine gl_ldc (pc := 4) (10000000) C dL_acts_4 (by decide +kernel) ?_
  refine gl_top (y := nI 10000000) rfl ?_
  refine gl_callSi (pc := 6) (ctL_low V.1 LL ok_LL _ _ (d := 10000000) (by omega) (by omega)) C dL_acts_6 gL_acts_L_low rfl hdL_low ⟨rfl, rfl, Nat.le_of_ble_eq_true rfl, Nat.le_of_ble_eq_true rfl⟩ rfl (Nat.le_of_ble_eq_true rfl) rfl ?_
  rw [ev]
  refine gl_istore_7 (pc := 9) C dL_acts_9 ?_
  refine gl_iload_6 (pc := 11) C dL_acts_11 ?_
  refine gl_bipush (pc := 13) (nI 24) C dL_acts_13 (by decide +kernel) ?_
  refine gl_callSi (pc := 15) (ctL_low V.1 LL ok_LL _ _ (d := 24) (by omega) (by omega)) C dL_acts_15 gL_acts_L_low rfl hdL_low ⟨rfl, rfl, Nat.le_of_ble_eq_true rfl, Nat.le_of_ble_eq_true rfl⟩ rfl (Nat.le_of_ble_eq_true rfl) rfl ?_
  rw [ew]
  refine gl_istore_8 (pc := 18) C dL_acts_18 ?_
  refine gl_iload_8 (pc := 20) C dL_acts_20 ?_
  refine gl_bipush (pc := 22) (nI 6) C dL_acts_22 (by decide +kernel) ?_
  refine gl_icmp_ge (pc := 24) 43 C dL_acts_24 (by decide) (fun h24 => ?_) (fun h24 => absurd h24 (not_not_intro (nI_le (by omega) (by omega))))
  refine gl_iload_8 (pc := 43) C dL_acts_43 ?_
  refine gl_bipush (pc := 45) (nI 15) C dL_acts_45 (by decide +kernel) ?_
  refine gl_icmp_ge (pc := 47) 190 C dL_acts_47 (by decide) (fun h47 => ?_) (fun h47 => absurd h47 (not_not_intro (nI_le (by omega) (by omega))))
  refine gl_iconst (pc := 190) (nI 1) C dL_acts_190 (by decide) ?_
  refine gl_iload_7 (pc := 191) C dL_acts_191 ?_
  refine gl_iload_7 (pc := 193) C dL_acts_193 ?_
  refine gl_bipush (pc := 195) (nI 7) C dL_acts_195 (by decide +kernel) ?_
  refine gl_irem (pc := 197) C dL_acts_197 (by decide) ?_
  refine gl_top (pk_rem (by omega) (by omega) (by omega)) ?_
  refine gl_ifne (pc := 198) 206 C dL_acts_198 (by decide) (fun h198 => ?_) (fun h198 => ?_)
  · skip
    refine gl_bipush (pc := 206) (nI 9) C dL_acts_206 (by decide +kernel) ?_
    refine gl_top (lgD_1 h198) ?_
    exact gl_on c208 (gl_le_c (rfl) (gl_le_c (rfl) (gl_le_c (rfl) (gl_le_c (rfl) (gl_le_c (rfl) (gl_le_c (rfl) (gl_le_c (rfl) (gl_le_c (rfl) (gl_le_c (rfl) (gl_le_o (gl_le_o (gl_le_n)))))))))))) (rfl)
  · skip
    refine gl_bipush (pc := 201) (nI 100) C dL_acts_201 (by decide +kernel) ?_
    refine gl_top (lgD_0 h198) ?_
    refine gl_goto (pc := 203) 208 C dL_acts_203 (by decide) ?_
    exact gl_on c208 (gl_le_c (rfl) (gl_le_c (rfl) (gl_le_c (rfl) (gl_le_c (rfl) (gl_le_c (rfl) (gl_le_c (rfl) (gl_le_c (rfl) (gl_le_c (rfl) (gl_le_c (rfl) (gl_le_o (gl_le_o (gl_le_n)))))))))))) (rfl)
