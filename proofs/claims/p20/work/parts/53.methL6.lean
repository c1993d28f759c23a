set_option maxRecDepth 100000 in
set_option maxHeartbeats 4000000 in
theorem ctL_cars_bad (F : gl_F) {n m t p q A : Nat} {G S : Nat → Int32} (I : qI n m t p q A G S) {v wy : Nat} (hv : v < 10000000) (hwy : wy < 24) (hb : ¬ lgL v < lgM v) : gl_Ct F LL yL_cars wsL_cars rmL_cars [.ref (gl_r F 126), .ref (gl_r F 129), .ref (gl_r F 130), .ref (gl_r F 131), .ref (gl_r F 132), .ref (gl_r F 133), .int (nI v), .int (nI 0)] (ll G (en S n)) (some (.int (nI 1))) ((ll G (en S n))) := by
  refine gl_met (cc := cL_cars) (maxL := 12) (ret := some .boolean) [some (.ref (gl_r F 126)), some (.ref (gl_r F 129)), some (.ref (gl_r F 130)), some (.ref (gl_r F 131)), some (.ref (gl_r F 132)), some (.ref (gl_r F 133)), some (.int (nI v)), some (.int (nI 0)), none, none, none, none] (plainFor_of_name (by decide)) rfl ok_LL (by simp [Value.category]) (Nat.le_of_ble_eq_true rfl) rfl (fun V hV C => ?_)
  subst hV
  obtain ⟨w, hq, ht1, hA, hS, hp5, hq5, hp, hqq, z⟩ := id I
  obtain ⟨hn40, hm5, hn, hm, ht, hcar, hcal⟩ := id w
  have c48 : gl_G LL (some (.int (nI 1))) ((ll G (en S n))) V 48 [some (.ref (gl_r V.1 126)), some (.ref (gl_r V.1 129)), some (.ref (gl_r V.1 130)), some (.ref (gl_r V.1 131)), some (.ref (gl_r V.1 132)), some (.ref (gl_r V.1 133)), some (.int (nI v)), some (.int (nI 0)), some (.int (nI (lgL v))), none, none, none] [.int (nI (lgM v))] (ll G (en S n)) := by
    refine gl_istore_9 (pc := 48) C dL_cars_48 ?_
    refine gl_iconst (pc := 50) (nI 1) C dL_cars_50 (by decide) ?_
    refine gl_iload_6 (pc := 51) C dL_cars_51 ?_
    refine gl_sipush (pc := 53) (nI 900) C dL_cars_53 (by decide +kernel) ?_
    refine gl_idiv (pc := 56) C dL_cars_56 (by decide) ?_
    refine gl_top (pk_div (by omega) (by omega) (by omega)) ?_
    refine gl_bipush (pc := 57) (nI 8) C dL_cars_57 (by decide +kernel) ?_
    refine gl_irem (pc := 59) C dL_cars_59 (by decide) ?_
    refine gl_top (pk_rem (by omega) (by omega) (by omega)) ?_
    first | with_reducible refine gl_iaddN (pc := 60) C dL_cars_60 ?_ | refine gl_iadd (pc := 60) C dL_cars_60 ?_
    refine gl_top (y := nI (lgP v)) rfl ?_
    refine gl_istore_10 (pc := 61) C dL_cars_61 ?_
    refine gl_iload_9 (pc := 63) C dL_cars_63 ?_
    refine gl_iload_8 (pc := 65) C dL_cars_65 ?_
    refine gl_icmp_gt (pc := 67) 90 C dL_cars_67 (by decide) (fun h67 => absurd h67 (fun z => hb ((nI_ltI (by have := lgL_lt v; omega) (by have := lgM_lt v; omega)).mp z))) (fun h67 => ?_)
    refine gl_aload_0 (pc := 70) C dL_cars_70 ?_
    refine gl_iload_8 (pc := 71) C dL_cars_71 ?_
    refine gl_iload_9 (pc := 73) C dL_cars_73 ?_
    refine gl_iload_10 (pc := 75) C dL_cars_75 ?_
    refine gl_callVi (pc := 77) (gl_upC (ctX4_addCar V.1 w (by omega) hS hp5 hp hq5 hqq (nI (lgL v)) (nI (lgM v)) (nI (lgP v)))) C dL_cars_77 gL_cars_X4_addCar rfl hdX4_addCar ⟨rfl, rfl, Nat.le_of_ble_eq_true rfl, Nat.le_of_ble_eq_true rfl⟩ rfl (Nat.le_of_ble_eq_true rfl) rfl rfl rfl ?_
    refine gl_mem (congrArg (fun z => ll z _) (if_neg (fun z => (okC_no hb) z.1))) ?_
    refine gl_top ((if_neg (okC_no hb) : pa_addCar m (nI (lgL v)) (nI (lgM v)) (nI (lgP v)) = -1)) ?_
    refine gl_iconst (pc := 80) (-1) C dL_cars_80 (by decide) ?_
    refine gl_icmp_ne (pc := 81) 88 C dL_cars_81 (by decide) (fun h81 => absurd h81 (not_not_intro rfl)) (fun h81 => ?_)
    refine gl_iconst (pc := 84) (nI 1) C dL_cars_84 (by decide) ?_
    refine gl_goto (pc := 85) 89 C dL_cars_85 (by decide) ?_
    exact gl_zret (pc := 89) C dL_cars_89 (by rfl) (rfl) (rfl)
  have c23 : gl_G LL (some (.int (nI 1))) ((ll G (en S n))) V 23 [some (.ref (gl_r V.1 126)), some (.ref (gl_r V.1 129)), some (.ref (gl_r V.1 130)), some (.ref (gl_r V.1 131)), some (.ref (gl_r V.1 132)), some (.ref (gl_r V.1 133)), some (.int (nI v)), some (.int (nI 0)), none, none, none, none] [.int (nI (lgL v))] (ll G (en S n)) := by
    refine gl_istore_8 (pc := 23) C dL_cars_23 ?_
    refine gl_iload_6 (pc := 25) C dL_cars_25 ?_
    refine gl_iconst (pc := 27) (nI 4) C dL_cars_27 (by decide) ?_
    refine gl_irem (pc := 28) C dL_cars_28 (by decide) ?_
    refine gl_top (pk_rem (by omega) (by omega) (by omega)) ?_
    refine gl_iconst (pc := 29) (nI 1) C dL_cars_29 (by decide) ?_
    refine gl_icmp_le (pc := 30) 38 C dL_cars_30 (by decide) (fun h30 => ?_) (fun h30 => ?_)
    · skip
      refine gl_iconst (pc := 38) (nI 1) C dL_cars_38 (by decide) ?_
      refine gl_iload_6 (pc := 39) C dL_cars_39 ?_
      refine gl_bipush (pc := 41) (nI 60) C dL_cars_41 (by decide +kernel) ?_
      refine gl_idiv (pc := 43) C dL_cars_43 (by decide) ?_
      refine gl_top (pk_div (by omega) (by omega) (by omega)) ?_
      refine gl_bipush (pc := 44) (nI 15) C dL_cars_44 (by decide +kernel) ?_
      refine gl_irem (pc := 46) C dL_cars_46 (by decide) ?_
      refine gl_top (pk_rem (by omega) (by omega) (by omega)) ?_
      first | with_reducible refine gl_iaddN (pc := 47) C dL_cars_47 ?_ | refine gl_iadd (pc := 47) C dL_cars_47 ?_
      refine gl_top (lgM_1 h30) ?_
      exact gl_on c48 (gl_le_c (rfl) (gl_le_c (rfl) (gl_le_c (rfl) (gl_le_c (rfl) (gl_le_c (rfl) (gl_le_c (rfl) (gl_le_c (rfl) (gl_le_c (rfl) (gl_le_c (rfl) (gl_le_o (gl_le_o (gl_le_o (gl_le_n))))))))))))) (rfl)
    · skip
      refine gl_bipush (pc := 33) (nI 15) C dL_cars_33 (by decide +kernel) ?_
      refine gl_top (lgM_0 h30) ?_
      refine gl_goto (pc := 35) 48 C dL_cars_35 (by decide) ?_
      exact gl_on c48 (gl_le_c (rfl) (gl_le_c (rfl) (gl_le_c (rfl) (gl_le_c (rfl) (gl_le_c (rfl) (gl_le_c (rfl) (gl_le_c (rfl) (gl_le_c (rfl) (gl_le_c (rfl) (gl_le_o (gl_le_o (gl_le_o (gl_le_n))))))))))))) (rfl)
  refine gl_iload_7 (pc := 0) C dL_cars_0 ?_
  refine gl_ifne (pc := 2) 215 C dL_cars_2 (by decide) (fun h2 => absurd h2 (not_not_intro nI_0')) (fun h2 => ?_)
  refine gl_iload_6 (pc := 5) C dL_cars_5 ?_
  refine gl_iconst (pc := 7) (nI 4) C dL_cars_7 (by decide) ?_
  refine gl_irem (pc := 8) C dL_cars_8 (by decide) ?_
  refine gl_top (pk_rem (by omega) (by omega) (by omega)) ?_
  refine gl_ifle (pc := 9) 16 C dL_cars_9 (by decide) (fun h9 => ?_) (fun h9 => ?_)
  · skip
    refine gl_iload_6 (pc := 16) C dL_cars_16 ?_
    refine gl_iconst (pc := 18) (nI 4) C dL_cars_18 (by decide) ?_
    refine gl_idiv (pc := 19) C dL_cars_19 (by decide) ?_
    refine gl_top (pk_div (by omega) (by omega) (by omega)) ?_
    refine gl_bipush (pc := 20) (nI 15) C dL_cars_20 (by decide +kernel) ?_
    refine gl_irem (pc := 22) C dL_cars_22 (by decide) ?_
    refine gl_top (pk_rem (by omega) (by omega) (by omega)) ?_
    refine gl_top (lgL_1 h9) ?_
    exact gl_on c23 (gl_le_c (rfl) (gl_le_c (rfl) (gl_le_c (rfl) (gl_le_c (rfl) (gl_le_c (rfl) (gl_le_c (rfl) (gl_le_c (rfl) (gl_le_c (rfl) (gl_le_o (gl_le_o (gl_le_o (gl_le_o (gl_le_n))))))))))))) (rfl)
  · skip
    refine gl_iconst (pc := 12) (nI 0) C dL_cars_12 (by decide) ?_
    refine gl_top (lgL_0 h9) ?_
    refine gl_goto (pc := 13) 23 C dL_cars_13 (by decide) ?_
    exact gl_on c23 (gl_le_c (rfl) (gl_le_c (rfl) (gl_le_c (rfl) (gl_le_c (rfl) (gl_le_c (rfl) (gl_le_c (rfl) (gl_le_c (rfl) (gl_le_c (rfl) (gl_le_o (gl_le_o (gl_le_o (gl_le_o (gl_le_n))))))))))))) (rfl)
set_option maxRecDepth 100000 in
set_option maxHeartbeats 4000000 in
theorem ctL_cars_full (F : gl_F) {n m t p q A : Nat} {G S : Nat → Int32} (I : qI n m t p q A G S) {v wy : Nat} (hv : v < 10000000) (hwy : wy < 24) (hb : lgL v < lgM v) (h5 : m = 5) : gl_Ct F LL yL_cars wsL_cars rmL_cars [.ref (gl_r F 126), .ref (gl_r F 129), .ref (gl_r F 130), .ref (gl_r F 131), .ref (gl_r F 132), .ref (gl_r F 133), .int (nI v), .int (nI 0)] (ll G (en S n)) (some (.int (nI 1))) ((ll G (en S n))) := by
  refine gl_met (cc := cL_cars) (maxL := 12) (ret := some .boolean) [some (.ref (gl_r F 126)), some (.ref (gl_r F 129)), some (.ref (gl_r F 130)), some (.ref (gl_r F 131)), some (.ref (gl_r F 132)), some (.ref (gl_r F 133)), some (.int (nI v)), some (.int (nI 0)), none, none, none, none] (plainFor_of_name (by decide)) rfl ok_LL (by simp [Value.category]) (Nat.le_of_ble_eq_true rfl) rfl (fun V hV C => ?_)
  subst hV
  obtain ⟨w, hq, ht1, hA, hS, hp5, hq5, hp, hqq, z⟩ := id I
  obtain ⟨hn40, hm5, hn, hm, ht, hcar, hcal⟩ := id w
  have c48 : gl_G LL (some (.int (nI 1))) ((ll G (en S n))) V 48 [some (.ref (gl_r V.1 126)), some (.ref (gl_r V.1 129)), some (.ref (gl_r V.1 130)), some (.ref (gl_r V.1 131)), some (.ref (gl_r V.1 132)), some (.ref (gl_r V.1 133)), some (.int (nI v)), some (.int (nI 0)), some (.int (nI (lgL v))), none, none, none] [.int (nI (lgM v))] (ll G (en S n)) := by
    refine gl_istore_9 (pc := 48) C dL_cars_48 ?_
    refine gl_iconst (pc := 50) (nI 1) C dL_cars_50 (by decide) ?_
    refine gl_iload_6 (pc := 51) C dL_cars_51 ?_
    refine gl_sipush (pc := 53) (nI 900) C dL_cars_53 (by decide +kernel) ?_
    refine gl_idiv (pc := 56) C dL_cars_56 (by decide) ?_
    refine gl_top (pk_div (by omega) (by omega) (by omega)) ?_
    refine gl_bipush (pc := 57) (nI 8) C dL_cars_57 (by decide +kernel) ?_
    refine gl_irem (pc := 59) C dL_cars_59 (by decide) ?_
    refine gl_top (pk_rem (by omega) (by omega) (by omega)) ?_
    first | with_reducible refine gl_iaddN (pc := 60) C dL_cars_60 ?_ | refine gl_iadd (pc := 60) C dL_cars_60 ?_
    refine gl_top (y := nI (lgP v)) rfl ?_
    refine gl_istore_10 (pc := 61) C dL_cars_61 ?_
    refine gl_iload_9 (pc := 63) C dL_cars_63 ?_
    refine gl_iload_8 (pc := 65) C dL_cars_65 ?_
    refine gl_icmp_gt (pc := 67) 90 C dL_cars_67 (by decide) (fun h67 => ?_) (fun h67 => absurd h67 (not_not_intro (nI_lt hb (by have := lgM_lt v; omega))))
    refine gl_aload_1 (pc := 90) C dL_cars_90 ?_
    refine gl_iconst (pc := 91) (nI 1) C dL_cars_91 (by decide) ?_
    refine gl_iald (pc := 92) _ C dL_cars_92 rfl rfl (by omega) ?_
    refine gl_top (ll_A.trans ((en_i (by omega)).trans hm)) ?_
    refine gl_iconst (pc := 93) (nI 5) C dL_cars_93 (by decide) ?_
    refine gl_icmp_ne (pc := 94) 118 C dL_cars_94 (by decide) (fun h94 => absurd h94 (not_not_intro (by rw [h5]))) (fun h94 => ?_)
    refine gl_aload_0 (pc := 97) C dL_cars_97 ?_
    refine gl_iload_8 (pc := 98) C dL_cars_98 ?_
    refine gl_iload_9 (pc := 100) C dL_cars_100 ?_
    refine gl_iload_10 (pc := 102) C dL_cars_102 ?_
    refine gl_callVi (pc := 104) (gl_upC (ctX4_addCar V.1 w (by omega) hS hp5 hp hq5 hqq (nI (lgL v)) (nI (lgM v)) (nI (lgP v)))) C dL_cars_104 gL_cars_X4_addCar rfl hdX4_addCar ⟨rfl, rfl, Nat.le_of_ble_eq_true rfl, Nat.le_of_ble_eq_true rfl⟩ rfl (Nat.le_of_ble_eq_true rfl) rfl rfl rfl ?_
    refine gl_mem (congrArg (fun z => ll z _) (if_neg (fun z => z.2 h5))) ?_
    refine gl_top (((if_pos (okC_n hb)).trans (if_pos h5) : pa_addCar m (nI (lgL v)) (nI (lgM v)) (nI (lgP v)) = -3)) ?_
    refine gl_bipush (pc := 107) (-3) C dL_cars_107 (by decide +kernel) ?_
    refine gl_icmp_ne (pc := 109) 116 C dL_cars_109 (by decide) (fun h109 => absurd h109 (not_not_intro rfl)) (fun h109 => ?_)
    refine gl_iconst (pc := 112) (nI 1) C dL_cars_112 (by decide) ?_
    refine gl_goto (pc := 113) 117 C dL_cars_113 (by decide) ?_
    exact gl_zret (pc := 117) C dL_cars_117 (by rfl) (rfl) (rfl)
  have c23 : gl_G LL (some (.int (nI 1))) ((ll G (en S n))) V 23 [some (.ref (gl_r V.1 126)), some (.ref (gl_r V.1 129)), some (.ref (gl_r V.1 130)), some (.ref (gl_r V.1 131)), some (.ref (gl_r V.1 132)), some (.ref (gl_r V.1 133)), some (.int (nI v)), some (.int (nI 0)), none, none, none, none] [.int (nI (lgL v))] (ll G (en S n)) := by
    refine gl_istore_8 (pc := 23) C dL_cars_23 ?_
    refine gl_iload_6 (pc := 25) C dL_cars_25 ?_
    refine gl_iconst (pc := 27) (nI 4) C dL_cars_27 (by decide) ?_
    refine gl_irem (pc := 28) C dL_cars_28 (by decide) ?_
    refine gl_top (pk_rem (by omega) (by omega) (by omega)) ?_
    refine gl_iconst (pc := 29) (nI 1) C dL_cars_29 (by decide) ?_
    refine gl_icmp_le (pc := 30) 38 C dL_cars_30 (by decide) (fun h30 => ?_) (fun h30 => ?_)
    · skip
      refine gl_iconst (pc := 38) (nI 1) C dL_cars_38 (by decide) ?_
      refine gl_iload_6 (pc := 39) C dL_cars_39 ?_
      refine gl_bipush (pc := 41) (nI 60) C dL_cars_41 (by decide +kernel) ?_
      refine gl_idiv (pc := 43) C dL_cars_43 (by decide) ?_
      refine gl_top (pk_div (by omega) (by omega) (by omega)) ?_
      refine gl_bipush (pc := 44) (nI 15) C dL_cars_44 (by decide +kernel) ?_
      refine gl_irem (pc := 46) C dL_cars_46 (by decide) ?_
      refine gl_top (pk_rem (by omega) (by omega) (by omega)) ?_
      first | with_reducible refine gl_iaddN (pc := 47) C dL_cars_47 ?_ | refine gl_iadd (pc := 47) C dL_cars_47 ?_
      refine gl_top (lgM_1 h30) ?_
      exact gl_on c48 (gl_le_c (rfl) (gl_le_c (rfl) (gl_le_c (rfl) (gl_le_c (rfl) (gl_le_c (rfl) (gl_le_c (rfl) (gl_le_c (rfl) (gl_le_c (rfl) (gl_le_c (rfl) (gl_le_o (gl_le_o (gl_le_o (gl_le_n))))))))))))) (rfl)
    · skip
      refine gl_bipush (pc := 33) (nI 15) C dL_cars_33 (by decide +kernel) ?_
      refine gl_top (lgM_0 h30) ?_
      refine gl_goto (pc := 35) 48 C dL_cars_35 (by decide) ?_
      exact gl_on c48 (gl_le_c (rfl) (gl_le_c (rfl) (gl_le_c (rfl) (gl_le_c (rfl) (gl_le_c (rfl) (gl_le_c (rfl) (gl_le_c (rfl) (gl_le_c (rfl) (gl_le_c (rfl) (gl_le_o (gl_le_o (gl_le_o (gl_le_n))))))))))))) (rfl)
  refine gl_iload_7 (pc := 0) C dL_cars_0 ?_
  refine gl_ifne (pc := 2) 215 C dL_cars_2 (by decide) (fun h2 => absurd h2 (not_not_intro nI_0')) (fun h2 => ?_)
  refine gl_iload_6 (pc := 5) C dL_cars_5 ?_
  refine gl_iconst (pc := 7) (nI 4) C dL_cars_7 (by decide) ?_
  refine gl_irem (pc := 8) C dL_cars_8 (by decide) ?_
  refine gl_top (pk_rem (by omega) (by omega) (by omega)) ?_
  refine gl_ifle (pc := 9) 16 C dL_cars_9 (by decide) (fun h9 => ?_) (fun h9 => ?_)
  · skip
    refine gl_iload_6 (pc := 16) C dL_cars_16 ?_
    refine gl_iconst (pc := 18) (nI 4) C dL_cars_18 (by decide) ?_
    refine gl_idiv (pc := 19) C dL_cars_19 (by decide) ?_
    refine gl_top (pk_div (by omega) (by omega) (by omega)) ?_
    refine gl_bipush (pc := 20) (nI 15) C dL_cars_20 (by decide +kernel) ?_
    refine gl_irem (pc := 22) C dL_cars_22 (by decide) ?_
    refine gl_top (pk_rem (by omega) (by omega) (by omega)) ?_
    refine gl_top (lgL_1 h9) ?_
    exact gl_on c23 (gl_le_c (rfl) (gl_le_c (rfl) (gl_le_c (rfl) (gl_le_c (rfl) (gl_le_c (rfl) (gl_le_c (rfl) (gl_le_c (rfl) (gl_le_c (rfl) (gl_le_o (gl_le_o (gl_le_o (gl_le_o (gl_le_n))))))))))))) (rfl)
  · skip
    refine gl_iconst (pc := 12) (nI 0) C dL_cars_12 (by decide) ?_
    refine gl_top (lgL_0 h9) ?_
    refine gl_goto (pc := 13) 23 C dL_cars_13 (by decide) ?_
    exact gl_on c23 (gl_le_c (rfl) (gl_le_c (rfl) (gl_le_c (rfl) (gl_le_c (rfl) (gl_le_c (rfl) (gl_le_c (rfl) (gl_le_c (rfl) (gl_le_c (rfl) (gl_le_o (gl_le_o (gl_le_o (gl_le_o (gl_le_n))))))))))))) (rfl)
set_option maxRecDepth 100000 in
set_option maxHeartbeats 4000000 in
theorem ctL_cars_add (F : gl_F) {n m t p q A : Nat} {G S : Nat → Int32} (I : qI n m t p q A G S) {v wy : Nat} (hv : v < 10000000) (hwy : wy < 24) (hb : lgL v < lgM v) (h5 : m < 5) : gl_Ct F LL yL_cars wsL_cars rmL_cars [.ref (gl_r F 126), .ref (gl_r F 129), .ref (gl_r F 130), .ref (gl_r F 131), .ref (gl_r F 132), .ref (gl_r F 133), .int (nI v), .int (nI 0)] (ll G (en S n)) (some (.int (nI 1))) ((ll (sp_blk (sp_keepC G p q) 0 (sp_addC S m (nI (lgL v)) (nI (lgM v)) (nI (lgP v)))) (en (sp_addC S m (nI (lgL v)) (nI (lgM v)) (nI (lgP v))) n))) := by
  refine gl_met (cc := cL_cars) (maxL := 12) (ret := some .boolean) [some (.ref (gl_r F 126)), some (.ref (gl_r F 129)), some (.ref (gl_r F 130)), some (.ref (gl_r F 131)), some (.ref (gl_r F 132)), some (.ref (gl_r F 133)), some (.int (nI v)), some (.int (nI 0)), none, none, none, none] (plainFor_of_name (by decide)) rfl ok_LL (by simp [Value.category]) (Nat.le_of_ble_eq_true rfl) rfl (fun V hV C => ?_)
  subst hV
  obtain ⟨w, hq, ht1, hA, hS, hp5, hq5, hp, hqq, z⟩ := id I
  obtain ⟨hn40, hm5, hn, hm, ht, hcar, hcal⟩ := id w
  have c48 : gl_G LL (some (.int (nI 1))) ((ll (sp_blk (sp_keepC G p q) 0 (sp_addC S m (nI (lgL v)) (nI (lgM v)) (nI (lgP v)))) (en (sp_addC S m (nI (lgL v)) (nI (lgM v)) (nI (lgP v))) n))) V 48 [some (.ref (gl_r V.1 126)), some (.ref (gl_r V.1 129)), some (.ref (gl_r V.1 130)), some (.ref (gl_r V.1 131)), some (.ref (gl_r V.1 132)), some (.ref (gl_r V.1 133)), some (.int (nI v)), some (.int (nI 0)), some (.int (nI (lgL v))), none, none, none] [.int (nI (lgM v))] (ll G (en S n)) := by
    refine gl_istore_9 (pc := 48) C dL_cars_48 ?_
    refine gl_iconst (pc := 50) (nI 1) C dL_cars_50 (by decide) ?_
    refine gl_iload_6 (pc := 51) C dL_cars_51 ?_
    refine gl_sipush (pc := 53) (nI 900) C dL_cars_53 (by decide +kernel) ?_
    refine gl_idiv (pc := 56) C dL_cars_56 (by decide) ?_
    refine gl_top (pk_div (by omega) (by omega) (by omega)) ?_
    refine gl_bipush (pc := 57) (nI 8) C dL_cars_57 (by decide +kernel) ?_
    refine gl_irem (pc := 59) C dL_cars_59 (by decide) ?_
    refine gl_top (pk_rem (by omega) (by omega) (by omega)) ?_
    first | with_reducible refine gl_iaddN (pc := 60) C dL_cars_60 ?_ | refine gl_iadd (pc := 60) C dL_cars_60 ?_
    refine gl_top (y := nI (lgP v)) rfl ?_
    refine gl_istore_10 (pc := 61) C dL_cars_61 ?_
    refine gl_iload_9 (pc := 63) C dL_cars_63 ?_
    refine gl_iload_8 (pc := 65) C dL_cars_65 ?_
    refine gl_icmp_gt (pc := 67) 90 C dL_cars_67 (by decide) (fun h67 => ?_) (fun h67 => absurd h67 (not_not_intro (nI_lt hb (by have := lgM_lt v; omega))))
    refine gl_aload_1 (pc := 90) C dL_cars_90 ?_
    refine gl_iconst (pc := 91) (nI 1) C dL_cars_91 (by decide) ?_
    refine gl_iald (pc := 92) _ C dL_cars_92 rfl rfl (by omega) ?_
    refine gl_top (ll_A.trans ((en_i (by omega)).trans hm)) ?_
    refine gl_iconst (pc := 93) (nI 5) C dL_cars_93 (by decide) ?_
    refine gl_icmp_ne (pc := 94) 118 C dL_cars_94 (by decide) (fun h94 => ?_) (fun h94 => absurd h94 (fun z => absurd ((nI_eq (by omega) (by omega)).mp z) (by omega)))
    refine gl_iconst (pc := 118) (nI 0) C dL_cars_118 (by decide) ?_
    refine gl_istore_11 (pc := 119) C dL_cars_119 ?_
    refine gl_loop (pc := 121) (n := 6) (fun k => [some (.ref (gl_r V.1 126)), some (.ref (gl_r V.1 129)), some (.ref (gl_r V.1 130)), some (.ref (gl_r V.1 131)), some (.ref (gl_r V.1 132)), some (.ref (gl_r V.1 133)), some (.int (nI v)), some (.int (nI 0)), some (.int (nI (lgL v))), some (.int (nI (lgM v))), some (.int (nI (lgP v))), some (.int (nI k))]) (fun k => (ll G (en (lg_add S m (nI (lgL v)) (nI (lgM v)) (nI (lgP v)) k) n))) (fun k => True) 0 (Nat.zero_le _) (trivial) (gl_le_c (rfl) (gl_le_c (rfl) (gl_le_c (rfl) (gl_le_c (rfl) (gl_le_c (rfl) (gl_le_c (rfl) (gl_le_c (rfl) (gl_le_c (rfl) (gl_le_c (rfl) (gl_le_c (rfl) (gl_le_c (rfl) (gl_le_c (rfl) (gl_le_n))))))))))))) (rfl) (fun hI => ?_) (fun k hk hI ih => ?_)
    · skip
      refine gl_iload_11 (pc := 121) C dL_cars_121 ?_
      refine gl_bipush (pc := 123) (nI 6) C dL_cars_123 (by decide +kernel) ?_
      refine gl_icmp_ge (pc := 125) 184 C dL_cars_125 (by decide) (fun h125 => ?_) (fun h125 => absurd h125 (gl_xge))
      refine gl_aload_1 (pc := 184) C dL_cars_184 ?_
      refine gl_iconst (pc := 185) (nI 1) C dL_cars_185 (by decide) ?_
      refine gl_dup2 (pc := 186) C dL_cars_186 ?_
      refine gl_iald (pc := 187) _ C dL_cars_187 rfl rfl (by omega) ?_
      refine gl_top (ll_A.trans ((en_i (by omega)).trans ((lg_add_lo (by omega) 6).trans hm))) ?_
      refine gl_iconst (pc := 188) (nI 1) C dL_cars_188 (by decide) ?_
      first | with_reducible refine gl_iaddN (pc := 189) C dL_cars_189 ?_ | refine gl_iadd (pc := 189) C dL_cars_189 ?_
      refine gl_iast (pc := 190) _ C dL_cars_190 rfl rfl (by omega) ?_
      refine gl_mem (ll_u.trans (congrArg (ll G) (en_ui (by omega)))) ?_
      refine gl_aload_0 (pc := 191) C dL_cars_191 ?_
      refine gl_iload_8 (pc := 192) C dL_cars_192 ?_
      refine gl_iload_9 (pc := 194) C dL_cars_194 ?_
      refine gl_iload_10 (pc := 196) C dL_cars_196 ?_
      refine gl_callVi (pc := 198) (gl_upC (ctX4_addCar V.1 w (by omega) hS hp5 hp hq5 hqq (nI (lgL v)) (nI (lgM v)) (nI (lgP v)))) C dL_cars_198 gL_cars_X4_addCar rfl hdX4_addCar ⟨rfl, rfl, Nat.le_of_ble_eq_true rfl, Nat.le_of_ble_eq_true rfl⟩ rfl (Nat.le_of_ble_eq_true rfl) rfl rfl rfl ?_
      refine gl_mem (congrArg (fun z => ll z _) (if_pos ⟨(okC_n hb), by omega⟩)) ?_
      refine gl_top (((if_pos (okC_n hb)).trans (if_neg (by omega)) : pa_addCar m (nI (lgL v)) (nI (lgM v)) (nI (lgP v)) = nI m)) ?_
      refine gl_aload_1 (pc := 201) C dL_cars_201 ?_
      refine gl_iconst (pc := 202) (nI 1) C dL_cars_202 (by decide) ?_
      refine gl_iald (pc := 203) _ C dL_cars_203 rfl rfl (by omega) ?_
      refine gl_top (ll_A.trans ((en_i (by omega)).trans (gl_upd_eq (x := nI (m + 1))))) ?_
      refine gl_iconst (pc := 204) (nI 1) C dL_cars_204 (by decide) ?_
      refine gl_isub (pc := 205) C dL_cars_205 ?_
      refine gl_top ((pk_sub (by omega)).trans (congrArg nI (Nat.add_sub_cancel m 1))) ?_
      refine gl_icmp_ne (pc := 206) 213 C dL_cars_206 (by decide) (fun h206 => absurd h206 (not_not_intro rfl)) (fun h206 => ?_)
      refine gl_iconst (pc := 209) (nI 1) C dL_cars_209 (by decide) ?_
      refine gl_goto (pc := 210) 214 C dL_cars_210 (by decide) ?_
      exact gl_zret (pc := 214) C dL_cars_214 (by rfl) (rfl) (rfl)
    · skip
      refine gl_iload_11 (pc := 121) C dL_cars_121 ?_
      refine gl_bipush (pc := 123) (nI 6) C dL_cars_123 (by decide +kernel) ?_
      refine gl_icmp_ge (pc := 125) 184 C dL_cars_125 (by decide) (fun h125 => absurd h125 (nI_ge hk (by omega))) (fun h125 => ?_)
      refine gl_aload_3 (pc := 128) C dL_cars_128 ?_
      refine gl_bipush (pc := 129) (nI 6) C dL_cars_129 (by decide +kernel) ?_
      refine gl_aload_1 (pc := 131) C dL_cars_131 ?_
      refine gl_iconst (pc := 132) (nI 1) C dL_cars_132 (by decide) ?_
      refine gl_iald (pc := 133) _ C dL_cars_133 rfl rfl (by omega) ?_
      refine gl_top (ll_A.trans ((en_i (by omega)).trans ((lg_add_lo (by omega) k).trans hm))) ?_
      first | with_reducible refine gl_imulN (pc := 134) C dL_cars_134 ?_ | refine gl_imul (pc := 134) C dL_cars_134 ?_
      refine gl_iload_11 (pc := 135) C dL_cars_135 ?_
      first | with_reducible refine gl_iaddN (pc := 137) C dL_cars_137 ?_ | refine gl_iadd (pc := 137) C dL_cars_137 ?_
      refine gl_iload_11 (pc := 138) C dL_cars_138 ?_
      refine gl_ifeq (pc := 140) 149 C dL_cars_140 (by decide) (fun h140 => ?_) (fun h140 => ?_)
      · skip
        have hk0 := nI_z (by omega) h140
        refine gl_iload_8 (pc := 149) C dL_cars_149 ?_
        refine gl_goto (pc := 151) 177 C dL_cars_151 (by decide) ?_
        refine gl_iast (pc := 177) _ C dL_cars_177 rfl rfl (by omega) ?_
        refine gl_mem (ll_u.trans (congrArg (ll G) (en_uC (c := m) (w := k) h5 hk))) ?_
        first | with_reducible refine gl_iincN_11 (pc := 178) gl_i1 C dL_cars_178 ?_ | refine gl_iinc_11 (pc := 178) C dL_cars_178 (gl_inc1 _) ?_
        refine gl_goto (pc := 181) 121 C dL_cars_181 (by decide) ?_
        exact gl_on (ih (trivial)) (gl_le_c (rfl) (gl_le_c (rfl) (gl_le_c (rfl) (gl_le_c (rfl) (gl_le_c (rfl) (gl_le_c (rfl) (gl_le_c (rfl) (gl_le_c (rfl) (gl_le_c (rfl) (gl_le_c (rfl) (gl_le_c (rfl) (gl_le_c (rfl) (gl_le_n))))))))))))) (congrArg (fun z => ll G (en z n)) (congrArg (upd _ _) (Eq.symm (by unfold lg_val; first | exact if_pos (Or.inl hk0) | exact if_pos (Or.inr hk3) | (rw [if_neg (by omega)]; first | exact if_pos hk1 | (rw [if_neg hk1]; first | exact if_pos hk2 | exact if_neg hk2))))))
      · skip
        have hk0 : ¬ k = 0 := fun z => h140 (by rw [z]; exact nI_0')
        refine gl_iload_11 (pc := 143) C dL_cars_143 ?_
        refine gl_iconst (pc := 145) (nI 3) C dL_cars_145 (by decide) ?_
        refine gl_icmp_ne (pc := 146) 154 C dL_cars_146 (by decide) (fun h146 => ?_) (fun h146 => ?_)
        · skip
          have hk3 : ¬ k = 3 := fun z => h146 (by rw [z])
          refine gl_iload_11 (pc := 154) C dL_cars_154 ?_
          refine gl_iconst (pc := 156) (nI 1) C dL_cars_156 (by decide) ?_
          refine gl_icmp_ne (pc := 157) 165 C dL_cars_157 (by decide) (fun h157 => ?_) (fun h157 => ?_)
          · skip
            have hk1 : ¬ k = 1 := fun z => h157 (by rw [z])
            refine gl_iload_11 (pc := 165) C dL_cars_165 ?_
            refine gl_iconst (pc := 167) (nI 2) C dL_cars_167 (by decide) ?_
            refine gl_icmp_ne (pc := 168) 176 C dL_cars_168 (by decide) (fun h168 => ?_) (fun h168 => ?_)
            · skip
              have hk2 : ¬ k = 2 := fun z => h168 (by rw [z])
              refine gl_iconst (pc := 176) (nI 0) C dL_cars_176 (by decide) ?_
              refine gl_iast (pc := 177) _ C dL_cars_177 rfl rfl (by omega) ?_
              refine gl_mem (ll_u.trans (congrArg (ll G) (en_uC (c := m) (w := k) h5 hk))) ?_
              first | with_reducible refine gl_iincN_11 (pc := 178) gl_i1 C dL_cars_178 ?_ | refine gl_iinc_11 (pc := 178) C dL_cars_178 (gl_inc1 _) ?_
              refine gl_goto (pc := 181) 121 C dL_cars_181 (by decide) ?_
              exact gl_on (ih (trivial)) (gl_le_c (rfl) (gl_le_c (rfl) (gl_le_c (rfl) (gl_le_c (rfl) (gl_le_c (rfl) (gl_le_c (rfl) (gl_le_c (rfl) (gl_le_c (rfl) (gl_le_c (rfl) (gl_le_c (rfl) (gl_le_c (rfl) (gl_le_c (rfl) (gl_le_n))))))))))))) (congrArg (fun z => ll G (en z n)) (congrArg (upd _ _) (Eq.symm (by unfold lg_val; first | exact if_pos (Or.inl hk0) | exact if_pos (Or.inr hk3) | (rw [if_neg (by omega)]; first | exact if_pos hk1 | (rw [if_neg hk1]; first | exact if_pos hk2 | exact if_neg hk2))))))
            · skip
              have hk2 : k = 2 := (nI_eq (by omega) (by omega)).mp h168
              refine gl_iload_10 (pc := 171) C dL_cars_171 ?_
              refine gl_goto (pc := 173) 177 C dL_cars_173 (by decide) ?_
              refine gl_iast (pc := 177) _ C dL_cars_177 rfl rfl (by omega) ?_
              refine gl_mem (ll_u.trans (congrArg (ll G) (en_uC (c := m) (w := k) h5 hk))) ?_
              first | with_reducible refine gl_iincN_11 (pc := 178) gl_i1 C dL_cars_178 ?_ | refine gl_iinc_11 (pc := 178) C dL_cars_178 (gl_inc1 _) ?_
              refine gl_goto (pc := 181) 121 C dL_cars_181 (by decide) ?_
              exact gl_on (ih (trivial)) (gl_le_c (rfl) (gl_le_c (rfl) (gl_le_c (rfl) (gl_le_c (rfl) (gl_le_c (rfl) (gl_le_c (rfl) (gl_le_c (rfl) (gl_le_c (rfl) (gl_le_c (rfl) (gl_le_c (rfl) (gl_le_c (rfl) (gl_le_c (rfl) (gl_le_n))))))))))))) (congrArg (fun z => ll G (en z n)) (congrArg (upd _ _) (Eq.symm (by unfold lg_val; first | exact if_pos (Or.inl hk0) | exact if_pos (Or.inr hk3) | (rw [if_neg (by omega)]; first | exact if_pos hk1 | (rw [if_neg hk1]; first | exact if_pos hk2 | exact if_neg hk2))))))
          · skip
            have hk1 : k = 1 := (nI_eq (by omega) (by omega)).mp h157
            refine gl_iload_9 (pc := 160) C dL_cars_160 ?_
            refine gl_goto (pc := 162) 177 C dL_cars_162 (by decide) ?_
            refine gl_iast (pc := 177) _ C dL_cars_177 rfl rfl (by omega) ?_
            refine gl_mem (ll_u.trans (congrArg (ll G) (en_uC (c := m) (w := k) h5 hk))) ?_
            first | with_reducible refine gl_iincN_11 (pc := 178) gl_i1 C dL_cars_178 ?_ | refine gl_iinc_11 (pc := 178) C dL_cars_178 (gl_inc1 _) ?_
            refine gl_goto (pc := 181) 121 C dL_cars_181 (by decide) ?_
            exact gl_on (ih (trivial)) (gl_le_c (rfl) (gl_le_c (rfl) (gl_le_c (rfl) (gl_le_c (rfl) (gl_le_c (rfl) (gl_le_c (rfl) (gl_le_c (rfl) (gl_le_c (rfl) (gl_le_c (rfl) (gl_le_c (rfl) (gl_le_c (rfl) (gl_le_c (rfl) (gl_le_n))))))))))))) (congrArg (fun z => ll G (en z n)) (congrArg (upd _ _) (Eq.symm (by unfold lg_val; first | exact if_pos (Or.inl hk0) | exact if_pos (Or.inr hk3) | (rw [if_neg (by omega)]; first | exact if_pos hk1 | (rw [if_neg hk1]; first | exact if_pos hk2 | exact if_neg hk2))))))
        · skip
          have hk3 : k = 3 := (nI_eq (by omega) (by omega)).mp h146
          refine gl_iload_8 (pc := 149) C dL_cars_149 ?_
          refine gl_goto (pc := 151) 177 C dL_cars_151 (by decide) ?_
          refine gl_iast (pc := 177) _ C dL_cars_177 rfl rfl (by omega) ?_
          refine gl_mem (ll_u.trans (congrArg (ll G) (en_uC (c := m) (w := k) h5 hk))) ?_
          first | with_reducible refine gl_iincN_11 (pc := 178) gl_i1 C dL_cars_178 ?_ | refine gl_iinc_11 (pc := 178) C dL_cars_178 (gl_inc1 _) ?_
          refine gl_goto (pc := 181) 121 C dL_cars_181 (by decide) ?_
          exact gl_on (ih (trivial)) (gl_le_c (rfl) (gl_le_c (rfl) (gl_le_c (rfl) (gl_le_c (rfl) (gl_le_c (rfl) (gl_le_c (rfl) (gl_le_c (rfl) (gl_le_c (rfl) (gl_le_c (rfl) (gl_le_c (rfl) (gl_le_c (rfl) (gl_le_c (rfl) (gl_le_n))))))))))))) (congrArg (fun z => ll G (en z n)) (congrArg (upd _ _) (Eq.symm (by unfold lg_val; first | exact if_pos (Or.inl hk0) | exact if_pos (Or.inr hk3) | (rw [if_neg (by omega)]; first | exact if_pos hk1 | (rw [if_neg hk1]; first | exact if_pos hk2 | exact if_neg hk2))))))
  have c23 : gl_G LL (some (.int (nI 1))) ((ll (sp_blk (sp_keepC G p q) 0 (sp_addC S m (nI (lgL v)) (nI (lgM v)) (nI (lgP v)))) (en (sp_addC S m (nI (lgL v)) (nI (lgM v)) (nI (lgP v))) n))) V 23 [some (.ref (gl_r V.1 126)), some (.ref (gl_r V.1 129)), some (.ref (gl_r V.1 130)), some (.ref (gl_r V.1 131)), some (.ref (gl_r V.1 132)), some (.ref (gl_r V.1 133)), some (.int (nI v)), some (.int (nI 0)), none, none, none, none] [.int (nI (lgL v))] (ll G (en S n)) := by
    refine gl_istore_8 (pc := 23) C dL_cars_23 ?_
    refine gl_iload_6 (pc := 25) C dL_cars_25 ?_
    refine gl_iconst (pc := 27) (nI 4) C dL_cars_27 (by decide) ?_
    refine gl_irem (pc := 28) C dL_cars_28 (by decide) ?_
    refine gl_top (pk_rem (by omega) (by omega) (by omega)) ?_
    refine gl_iconst (pc := 29) (nI 1) C dL_cars_29 (by decide) ?_
    refine gl_icmp_le (pc := 30) 38 C dL_cars_30 (by decide) (fun h30 => ?_) (fun h30 => ?_)
    · skip
      refine gl_iconst (pc := 38) (nI 1) C dL_cars_38 (by decide) ?_
      refine gl_iload_6 (pc := 39) C dL_cars_39 ?_
      refine gl_bipush (pc := 41) (nI 60) C dL_cars_41 (by decide +kernel) ?_
      refine gl_idiv (pc := 43) C dL_cars_43 (by decide) ?_
      refine gl_top (pk_div (by omega) (by omega) (by omega)) ?_
      refine gl_bipush (pc := 44) (nI 15) C dL_cars_44 (by decide +kernel) ?_
      refine gl_irem (pc := 46) C dL_cars_46 (by decide) ?_
      refine gl_top (pk_rem (by omega) (by omega) (by omega)) ?_
      first | with_reducible refine gl_iaddN (pc := 47) C dL_cars_47 ?_ | refine gl_iadd (pc := 47) C dL_cars_47 ?_
      refine gl_top (lgM_1 h30) ?_
      exact gl_on c48 (gl_le_c (rfl) (gl_le_c (rfl) (gl_le_c (rfl) (gl_le_c (rfl) (gl_le_c (rfl) (gl_le_c (rfl) (gl_le_c (rfl) (gl_le_c (rfl) (gl_le_c (rfl) (gl_le_o (gl_le_o (gl_le_o (gl_le_n))))))))))))) (rfl)
    · skip
      refine gl_bipush (pc := 33) (nI 15) C dL_cars_33 (by decide +kernel) ?_
      refine gl_top (lgM_0 h30) ?_
      refine gl_goto (pc := 35) 48 C dL_cars_35 (by decide) ?_
      exact gl_on c48 (gl_le_c (rfl) (gl_le_c (rfl) (gl_le_c (rfl) (gl_le_c (rfl) (gl_le_c (rfl) (gl_le_c (rfl) (gl_le_c (rfl) (gl_le_c (rfl) (gl_le_c (rfl) (gl_le_o (gl_le_o (gl_le_o (gl_le_n))))))))))))) (rfl)
  refine gl_iload_7 (pc := 0) C dL_cars_0 ?_
  refine gl_ifne (pc := 2) 215 C dL_cars_2 (by decide) (fun h2 => absurd h2 (not_not_intro nI_0')) (fun h2 => ?_)
  refine gl_iload_6 (pc := 5) C dL_cars_5 ?_
  refine gl_iconst (pc := 7) (nI 4) C dL_cars_7 (by decide) ?_
  refine gl_irem (pc := 8) C dL_cars_8 (by decide) ?_
  refine gl_top (pk_rem (by omega) (by omega) (by omega)) ?_
  refine gl_ifle (pc := 9) 16 C dL_cars_9 (by decide) (fun h9 => ?_) (fun h9 => ?_)
  · skip
    refine gl_iload_6 (pc := 16) C dL_cars_16 ?_
    refine gl_iconst (pc := 18) (nI 4) C dL_cars_18 (by decide) ?_
    refine gl_idiv (pc := 19) C dL_cars_19 (by decide) ?_
    refine gl_top (pk_div (by omega) (by omega) (by omega)) ?_
    refine gl_bipush (pc := 20) (nI 15) C dL_cars_20 (by decide +kernel) ?_
    refine gl_irem (pc := 22) C dL_cars_22 (by decide) ?_
    refine gl_top (pk_rem (by omega) (by omega) (by omega)) ?_
    refine gl_top (lgL_1 h9) ?_
    exact gl_on c23 (gl_le_c (rfl) (gl_le_c (rfl) (gl_le_c (rfl) (gl_le_c (rfl) (gl_le_c (rfl) (gl_le_c (rfl) (gl_le_c (rfl) (gl_le_c (rfl) (gl_le_o (gl_le_o (gl_le_o (gl_le_o (gl_le_n))))))))))))) (rfl)
  · skip
    refine gl_iconst (pc := 12) (nI 0) C dL_cars_12 (by decide) ?_
    refine gl_top (lgL_0 h9) ?_
    refine gl_goto (pc := 13) 23 C dL_cars_13 (by decide) ?_
    exact gl_on c23 (gl_le_c (rfl) (gl_le_c (rfl) (gl_le_c (rfl) (gl_le_c (rfl) (gl_le_c (rfl) (gl_le_c (rfl) (gl_le_c (rfl) (gl_le_c (rfl) (gl_le_o (gl_le_o (gl_le_o (gl_le_o (gl_le_n))))))))))))) (rfl)
set_option maxRecDepth 100000 in
set_option maxHeartbeats 4000000 in
theorem ctL_cars_awake (F : gl_F) {n m t p q A : Nat} {G S : Nat → Int32} (I : qI n m t p q A G S) {v wy : Nat} (hv : v < 10000000) (hwy : wy < 24)  : gl_Ct F LL yL_cars wsL_cars rmL_cars [.ref (gl_r F 126), .ref (gl_r F 129), .ref (gl_r F 130), .ref (gl_r F 131), .ref (gl_r F 132), .ref (gl_r F 133), .int (nI v), .int (nI 1)] (ll G (en S n)) (some (.int (nI 1))) ((ll (sp_blk (sp_keepC G p q) 0 (upd S (4 + lgH v t) (nI (1 + v / 72 % 5)))) (en (upd S (4 + lgH v t) (nI (1 + v / 72 % 5))) n))) := by
  refine gl_met (cc := cL_cars) (maxL := 12) (ret := some .boolean) [some (.ref (gl_r F 126)), some (.ref (gl_r F 129)), some (.ref (gl_r F 130)), some (.ref (gl_r F 131)), some (.ref (gl_r F 132)), some (.ref (gl_r F 133)), some (.int (nI v)), some (.int (nI 1)), none, none, none, none] (plainFor_of_name (by decide)) rfl ok_LL (by simp [Value.category]) (Nat.le_of_ble_eq_true rfl) rfl (fun V hV C => ?_)
  subst hV
  obtain ⟨w, hq, ht1, hA, hS, hp5, hq5, hp, hqq, z⟩ := id I
  obtain ⟨hn40, hm5, hn, hm, ht, hcar, hcal⟩ := id w
  have hcN : cN (nI (lgH v t)) = lgH v t := nI_clamp (by have := lgH_lt v t; omega)
  have hok : sp_okA (nI (lgH v t)) (nI (1 + v / 72 % 5)) := ⟨inr_n (by omega) (by have := lgH_lt v t; omega) (by omega), inr_n (by omega) (by omega) (by omega)⟩
  have c247 : gl_G LL (some (.int (nI 1))) ((ll (sp_blk (sp_keepC G p q) 0 (upd S (4 + lgH v t) (nI (1 + v / 72 % 5)))) (en (upd S (4 + lgH v t) (nI (1 + v / 72 % 5))) n))) V 247 [some (.ref (gl_r V.1 126)), some (.ref (gl_r V.1 129)), some (.ref (gl_r V.1 130)), some (.ref (gl_r V.1 131)), some (.ref (gl_r V.1 132)), some (.ref (gl_r V.1 133)), some (.int (nI v)), some (.int (nI 1)), none, none, none, none] [.int (nI (lgH v t))] (ll G (en S n)) := by
    refine gl_istore_8 (pc := 247) C dL_cars_247 ?_
    refine gl_aload_2 (pc := 249) C dL_cars_249 ?_
    refine gl_iload_8 (pc := 250) C dL_cars_250 ?_
    refine gl_iald (pc := 252) _ C dL_cars_252 rfl rfl (lgH_lt v t) ?_
    refine gl_top (ll_A.trans (en_i (by have := lgH_lt v t; omega))) ?_
    refine gl_istore_9 (pc := 253) C dL_cars_253 ?_
    refine gl_aload_2 (pc := 255) C dL_cars_255 ?_
    refine gl_iload_8 (pc := 256) C dL_cars_256 ?_
    refine gl_iconst (pc := 258) (nI 1) C dL_cars_258 (by decide) ?_
    refine gl_iload_6 (pc := 259) C dL_cars_259 ?_
    refine gl_bipush (pc := 261) (nI 72) C dL_cars_261 (by decide +kernel) ?_
    refine gl_idiv (pc := 263) C dL_cars_263 (by decide) ?_
    refine gl_top (pk_div (by omega) (by omega) (by omega)) ?_
    refine gl_iconst (pc := 264) (nI 5) C dL_cars_264 (by decide) ?_
    refine gl_irem (pc := 265) C dL_cars_265 (by decide) ?_
    refine gl_top (pk_rem (by omega) (by omega) (by omega)) ?_
    first | with_reducible refine gl_iaddN (pc := 266) C dL_cars_266 ?_ | refine gl_iadd (pc := 266) C dL_cars_266 ?_
    refine gl_iast (pc := 267) _ C dL_cars_267 rfl rfl (lgH_lt v t) ?_
    refine gl_mem (ll_u.trans (congrArg (ll G) (en_ui (by have := lgH_lt v t; omega)))) ?_
    refine gl_aload_0 (pc := 268) C dL_cars_268 ?_
    refine gl_iload_8 (pc := 269) C dL_cars_269 ?_
    refine gl_aload_2 (pc := 271) C dL_cars_271 ?_
    refine gl_iload_8 (pc := 272) C dL_cars_272 ?_
    refine gl_iald (pc := 274) _ C dL_cars_274 rfl rfl (lgH_lt v t) ?_
    refine gl_top (ll_A.trans ((en_i (by have := lgH_lt v t; omega)).trans gl_upd_eq)) ?_
    refine gl_callVi (pc := 275) (gl_upC (ctX4_setAwake V.1 w (by omega) hS hp5 hp hq5 hqq (nI (lgH v t)) (nI (1 + v / 72 % 5)))) C dL_cars_275 gL_cars_X4_setAwake rfl hdX4_setAwake ⟨rfl, rfl, Nat.le_of_ble_eq_true rfl, Nat.le_of_ble_eq_true rfl⟩ rfl (Nat.le_of_ble_eq_true rfl) rfl rfl rfl ?_
    refine gl_mem (congrArg (fun z => ll z _) ((if_pos hok).trans (by rw [hcN]))) ?_
    refine gl_top (((if_pos hok).trans (by rw [hcN]) : pa_awake S (nI (lgH v t)) (nI (1 + v / 72 % 5)) = S (4 + lgH v t))) ?_
    refine gl_iload_9 (pc := 278) C dL_cars_278 ?_
    refine gl_icmp_ne (pc := 280) 287 C dL_cars_280 (by decide) (fun h280 => absurd h280 (not_not_intro rfl)) (fun h280 => ?_)
    refine gl_iconst (pc := 283) (nI 1) C dL_cars_283 (by decide) ?_
    refine gl_goto (pc := 284) 288 C dL_cars_284 (by decide) ?_
    exact gl_zret (pc := 288) C dL_cars_288 (by rfl) (rfl) (rfl)
  refine gl_iload_7 (pc := 0) C dL_cars_0 ?_
  refine gl_ifne (pc := 2) 215 C dL_cars_2 (by decide) (fun h2 => ?_) (fun h2 => absurd h2 (by decide))
  refine gl_iload_7 (pc := 215) C dL_cars_215 ?_
  refine gl_iconst (pc := 217) (nI 1) C dL_cars_217 (by decide) ?_
  refine gl_icmp_ne (pc := 218) 289 C dL_cars_218 (by decide) (fun h218 => absurd h218 (not_not_intro rfl)) (fun h218 => ?_)
  refine gl_iload_6 (pc := 221) C dL_cars_221 ?_
  refine gl_iconst (pc := 223) (nI 3) C dL_cars_223 (by decide) ?_
  refine gl_irem (pc := 224) C dL_cars_224 (by decide) ?_
  refine gl_top (pk_rem (by omega) (by omega) (by omega)) ?_
  refine gl_ifne (pc := 225) 240 C dL_cars_225 (by decide) (fun h225 => ?_) (fun h225 => ?_)
  · skip
    refine gl_iload_6 (pc := 240) C dL_cars_240 ?_
    refine gl_iconst (pc := 242) (nI 3) C dL_cars_242 (by decide) ?_
    refine gl_idiv (pc := 243) C dL_cars_243 (by decide) ?_
    refine gl_top (pk_div (by omega) (by omega) (by omega)) ?_
    refine gl_bipush (pc := 244) (nI 24) C dL_cars_244 (by decide +kernel) ?_
    refine gl_irem (pc := 246) C dL_cars_246 (by decide) ?_
    refine gl_top (pk_rem (by omega) (by omega) (by omega)) ?_
    refine gl_top (lgH_1 (t := t) h225) ?_
    exact gl_on c247 (gl_le_c (rfl) (gl_le_c (rfl) (gl_le_c (rfl) (gl_le_c (rfl) (gl_le_c (rfl) (gl_le_c (rfl) (gl_le_c (rfl) (gl_le_c (rfl) (gl_le_o (gl_le_o (gl_le_o (gl_le_o (gl_le_n))))))))))))) (rfl)
  · skip
    refine gl_aload_1 (pc := 228) C dL_cars_228 ?_
    refine gl_iconst (pc := 229) (nI 0) C dL_cars_229 (by decide) ?_
    refine gl_iald (pc := 230) _ C dL_cars_230 rfl rfl (by omega) ?_
    refine gl_top (ll_A.trans ((en_i (by omega)).trans ht)) ?_
    refine gl_bipush (pc := 231) (nI 60) C dL_cars_231 (by decide +kernel) ?_
    refine gl_idiv (pc := 233) C dL_cars_233 (by decide) ?_
    refine gl_top (pk_div (by omega) (by omega) (by omega)) ?_
    refine gl_bipush (pc := 234) (nI 24) C dL_cars_234 (by decide +kernel) ?_
    refine gl_irem (pc := 236) C dL_cars_236 (by decide) ?_
    refine gl_top (pk_rem (by omega) (by omega) (by omega)) ?_
    refine gl_top (lgH_0 h225) ?_
    refine gl_goto (pc := 237) 247 C dL_cars_237 (by decide) ?_
    exact gl_on c247 (gl_le_c (rfl) (gl_le_c (rfl) (gl_le_c (rfl) (gl_le_c (rfl) (gl_le_c (rfl) (gl_le_c (rfl) (gl_le_c (rfl) (gl_le_c (rfl) (gl_le_o (gl_le_o (gl_le_o (gl_le_o (gl_le_n))))))))))))) (rfl)
set_option maxRecDepth 100000 in
set_option maxHeartbeats 4000000 in
theorem ctL_cars_none (F : gl_F) {n m t p q A : Nat} {G S : Nat → Int32} (I : qI n m t p q A G S) {v wy : Nat} (hv : v < 10000000) (hwy : wy < 24) (h2 : 2 ≤ wy) (hm0 : m = 0) : gl_Ct F LL yL_cars wsL_cars rmL_cars [.ref (gl_r F 126), .ref (gl_r F 129), .ref (gl_r F 130), .ref (gl_r F 131), .ref (gl_r F 132), .ref (gl_r F 133), .int (nI v), .int (nI wy)] (ll G (en S n)) (some (.int (nI 1))) ((ll G (en S n))) := by
  refine gl_met (cc := cL_cars) (maxL := 12) (ret := some .boolean) [some (.ref (gl_r F 126)), some (.ref (gl_r F 129)), some (.ref (gl_r F 130)), some (.ref (gl_r F 131)), some (.ref (gl_r F 132)), some (.ref (gl_r F 133)), some (.int (nI v)), some (.int (nI wy)), none, none, none, none] (plainFor_of_name (by decide)) rfl ok_LL (by simp [Value.category]) (Nat.le_of_ble_eq_true rfl) rfl (fun V hV C => ?_)
  subst hV
  obtain ⟨w, hq, ht1, hA, hS, hp5, hq5, hp, hqq, z⟩ := id I
  obtain ⟨hn40, hm5, hn, hm, ht, hcar, hcal⟩ := id w
  have hno : ¬ sp_has (nI 0) (nI m) := fun z => z.2 (by rw [hm0]; exact Int32.le_refl _)
  refine gl_iload_7 (pc := 0) C dL_cars_0 ?_
  refine gl_ifne (pc := 2) 215 C dL_cars_2 (by decide) (fun h2 => ?_) (fun h2 => absurd h2 (fun z => absurd (nI_z (by omega) z) (by omega)))
  refine gl_iload_7 (pc := 215) C dL_cars_215 ?_
  refine gl_iconst (pc := 217) (nI 1) C dL_cars_217 (by decide) ?_
  refine gl_icmp_ne (pc := 218) 289 C dL_cars_218 (by decide) (fun h218 => ?_) (fun h218 => absurd h218 (fun z => absurd ((nI_eq (by omega) (by omega)).mp z) (by omega)))
  refine gl_aload_1 (pc := 289) C dL_cars_289 ?_
  refine gl_iconst (pc := 290) (nI 1) C dL_cars_290 (by decide) ?_
  refine gl_iald (pc := 291) _ C dL_cars_291 rfl rfl (by omega) ?_
  refine gl_top (ll_A.trans ((en_i (by omega)).trans hm)) ?_
  refine gl_ifne (pc := 292) 329 C dL_cars_292 (by decide) (fun h292 => absurd h292 (not_not_intro (by rw [hm0]; exact nI_0'))) (fun h292 => ?_)
  refine gl_aload_0 (pc := 295) C dL_cars_295 ?_
  refine gl_iconst (pc := 296) (nI 0) C dL_cars_296 (by decide) ?_
  refine gl_iconst (pc := 297) (nI 1) C dL_cars_297 (by decide) ?_
  refine gl_callVi (pc := 298) (gl_upC (ctX4_hold V.1 w (by omega) hS hp5 hp hq5 hqq (nI 0) (nI 1))) C dL_cars_298 gL_cars_X4_hold rfl hdX4_hold ⟨rfl, rfl, Nat.le_of_ble_eq_true rfl, Nat.le_of_ble_eq_true rfl⟩ rfl (Nat.le_of_ble_eq_true rfl) rfl rfl rfl ?_
  refine gl_mem (congrArg (fun z => ll z _) (if_neg (fun z => hno z.1.1))) ?_
  refine gl_top ((if_neg (fun z => hno z.1) : pa_hold S n m (nI 0) (nI 1) = -1)) ?_
  refine gl_iconst (pc := 301) (-1) C dL_cars_301 (by decide) ?_
  refine gl_icmp_ne (pc := 302) 327 C dL_cars_302 (by decide) (fun h302 => absurd h302 (not_not_intro rfl)) (fun h302 => ?_)
  refine gl_aload_0 (pc := 305) C dL_cars_305 ?_
  refine gl_iconst (pc := 306) (nI 0) C dL_cars_306 (by decide) ?_
  refine gl_callVi (pc := 307) (gl_upC (ctX4_fail V.1 w (by omega) hS hp5 hp hq5 hqq (nI 0))) C dL_cars_307 gL_cars_X4_fail rfl hdX4_fail ⟨rfl, rfl, Nat.le_of_ble_eq_true rfl, Nat.le_of_ble_eq_true rfl⟩ rfl (Nat.le_of_ble_eq_true rfl) rfl rfl rfl ?_
  refine gl_mem (congrArg (fun z => ll z _) (if_neg (fun z => hno z.1))) ?_
  refine gl_top ((if_neg hno : pa_fail S n m t (nI 0) = -1)) ?_
  refine gl_iconst (pc := 310) (-1) C dL_cars_310 (by decide) ?_
  refine gl_icmp_ne (pc := 311) 327 C dL_cars_311 (by decide) (fun h311 => absurd h311 (not_not_intro rfl)) (fun h311 => ?_)
  refine gl_aload_0 (pc := 314) C dL_cars_314 ?_
  refine gl_iconst (pc := 315) (nI 0) C dL_cars_315 (by decide) ?_
  refine gl_callVi (pc := 316) (gl_upC (ctX4_repair V.1 w (by omega) hS hp5 hp hq5 hqq (nI 0))) C dL_cars_316 gL_cars_X4_repair rfl hdX4_repair ⟨rfl, rfl, Nat.le_of_ble_eq_true rfl, Nat.le_of_ble_eq_true rfl⟩ rfl (Nat.le_of_ble_eq_true rfl) rfl rfl rfl ?_
  refine gl_mem (congrArg (fun z => ll z _) (if_neg (fun z => hno z.1))) ?_
  refine gl_top ((if_neg hno : pa_repair S m (nI 0) = -1)) ?_
  refine gl_iconst (pc := 319) (-1) C dL_cars_319 (by decide) ?_
  refine gl_icmp_ne (pc := 320) 327 C dL_cars_320 (by decide) (fun h320 => absurd h320 (not_not_intro rfl)) (fun h320 => ?_)
  refine gl_iconst (pc := 323) (nI 1) C dL_cars_323 (by decide) ?_
  refine gl_goto (pc := 324) 328 C dL_cars_324 (by decide) ?_
  exact gl_zret (pc := 328) C dL_cars_328 (by rfl) (rfl) (rfl)
set_option maxRecDepth 100000 in
set_option maxHeartbeats 4000000 in
theorem ctL_cars_hold_no (F : gl_F) {n m t p q A : Nat} {G S : Nat → Int32} (I : qI n m t p q A G S) {v wy : Nat} (hv : v < 10000000) (hwy : wy < 24) (h2 : 2 ≤ wy) (h4 : wy < 4) (hm0 : 0 < m) (hs : S (iC (v % m) 4) = nI 2 ∨ S (iC (v % m) 4) = (nI (v / 5 % 2))) : gl_Ct F LL yL_cars wsL_cars rmL_cars [.ref (gl_r F 126), .ref (gl_r F 129), .ref (gl_r F 130), .ref (gl_r F 131), .ref (gl_r F 132), .ref (gl_r F 133), .int (nI v), .int (nI wy)] (ll G (en S n)) (some (.int (nI 1))) ((ll G (en S n))) := by
  refine gl_met (cc := cL_cars) (maxL := 12) (ret := some .boolean) [some (.ref (gl_r F 126)), some (.ref (gl_r F 129)), some (.ref (gl_r F 130)), some (.ref (gl_r F 131)), some (.ref (gl_r F 132)), some (.ref (gl_r F 133)), some (.int (nI v)), some (.int (nI wy)), none, none, none, none] (plainFor_of_name (by decide)) rfl ok_LL (by simp [Value.category]) (Nat.le_of_ble_eq_true rfl) rfl (fun V hV C => ?_)
  subst hV
  obtain ⟨w, hq, ht1, hA, hS, hp5, hq5, hp, hqq, z⟩ := id I
  obtain ⟨hn40, hm5, hn, hm, ht, hcar, hcal⟩ := id w
  have hcm : v % m < m := Nat.mod_lt _ (by omega)
  have hcN : cN (nI (v % m)) = v % m := nI_clamp (by omega)
  have hh : sp_has (nI (v % m)) (nI m) := has_n hcm (by omega)
  have hy : sp_inr (nI (v / 5 % 2)) (nI 0) (nI 1) := inr_n (by omega) (by omega) (by omega)
  have hok := And.intro hh hy
  refine gl_iload_7 (pc := 0) C dL_cars_0 ?_
  refine gl_ifne (pc := 2) 215 C dL_cars_2 (by decide) (fun h2 => ?_) (fun h2 => absurd h2 (fun z => absurd (nI_z (by omega) z) (by omega)))
  refine gl_iload_7 (pc := 215) C dL_cars_215 ?_
  refine gl_iconst (pc := 217) (nI 1) C dL_cars_217 (by decide) ?_
  refine gl_icmp_ne (pc := 218) 289 C dL_cars_218 (by decide) (fun h218 => ?_) (fun h218 => absurd h218 (fun z => absurd ((nI_eq (by omega) (by omega)).mp z) (by omega)))
  refine gl_aload_1 (pc := 289) C dL_cars_289 ?_
  refine gl_iconst (pc := 290) (nI 1) C dL_cars_290 (by decide) ?_
  refine gl_iald (pc := 291) _ C dL_cars_291 rfl rfl (by omega) ?_
  refine gl_top (ll_A.trans ((en_i (by omega)).trans hm)) ?_
  refine gl_ifne (pc := 292) 329 C dL_cars_292 (by decide) (fun h292 => ?_) (fun h292 => absurd h292 (fun z => absurd (nI_z (by omega) z) (by omega)))
  refine gl_iload_6 (pc := 329) C dL_cars_329 ?_
  refine gl_aload_1 (pc := 331) C dL_cars_331 ?_
  refine gl_iconst (pc := 332) (nI 1) C dL_cars_332 (by decide) ?_
  refine gl_iald (pc := 333) _ C dL_cars_333 rfl rfl (by omega) ?_
  refine gl_top (ll_A.trans ((en_i (by omega)).trans hm)) ?_
  refine gl_irem (pc := 334) C dL_cars_334 (nI_ne0 (by omega) (by omega)) ?_
  refine gl_top (pk_rem (by omega) (by omega) (by omega)) ?_
  refine gl_istore_8 (pc := 335) C dL_cars_335 ?_
  refine gl_bipush (pc := 337) (nI 6) C dL_cars_337 (by decide +kernel) ?_
  refine gl_iload_8 (pc := 339) C dL_cars_339 ?_
  first | with_reducible refine gl_imulN (pc := 341) C dL_cars_341 ?_ | refine gl_imul (pc := 341) C dL_cars_341 ?_
  refine gl_iconst (pc := 342) (nI 4) C dL_cars_342 (by decide) ?_
  first | with_reducible refine gl_iaddN (pc := 343) C dL_cars_343 ?_ | refine gl_iadd (pc := 343) C dL_cars_343 ?_
  refine gl_istore_9 (pc := 344) C dL_cars_344 ?_
  refine gl_iload_7 (pc := 346) C dL_cars_346 ?_
  refine gl_iconst (pc := 348) (nI 4) C dL_cars_348 (by decide) ?_
  refine gl_icmp_ge (pc := 349) 438 C dL_cars_349 (by decide) (fun h349 => absurd h349 (fun z => absurd ((nI_leI (by omega) (by omega)).mp z) (by omega))) (fun h349 => ?_)
  refine gl_iload_6 (pc := 352) C dL_cars_352 ?_
  refine gl_iconst (pc := 354) (nI 5) C dL_cars_354 (by decide) ?_
  refine gl_idiv (pc := 355) C dL_cars_355 (by decide) ?_
  refine gl_top (pk_div (by omega) (by omega) (by omega)) ?_
  refine gl_iconst (pc := 356) (nI 2) C dL_cars_356 (by decide) ?_
  refine gl_irem (pc := 357) C dL_cars_357 (by decide) ?_
  refine gl_top (pk_rem (by omega) (by omega) (by omega)) ?_
  refine gl_istore_10 (pc := 358) C dL_cars_358 ?_
  refine gl_aload_3 (pc := 360) C dL_cars_360 ?_
  refine gl_iload_9 (pc := 361) C dL_cars_361 ?_
  refine gl_iald (pc := 363) _ C dL_cars_363 rfl rfl (by omega) ?_
  refine gl_top (ll_A.trans (en_C (w := 4) (by omega) (by omega))) ?_
  refine gl_iconst (pc := 364) (nI 2) C dL_cars_364 (by decide) ?_
  refine gl_icmp_eq (pc := 365) 377 C dL_cars_365 (by decide) (fun h365 => ?_) (fun h365 => ?_)
  · skip
    refine gl_aload_0 (pc := 377) C dL_cars_377 ?_
    refine gl_iload_8 (pc := 378) C dL_cars_378 ?_
    refine gl_iload_10 (pc := 380) C dL_cars_380 ?_
    refine gl_callVi (pc := 382) (gl_upC (ctX4_hold V.1 w (by omega) hS hp5 hp hq5 hqq (nI (v % m)) (nI (v / 5 % 2)))) C dL_cars_382 gL_cars_X4_hold rfl hdX4_hold ⟨rfl, rfl, Nat.le_of_ble_eq_true rfl, Nat.le_of_ble_eq_true rfl⟩ rfl (Nat.le_of_ble_eq_true rfl) rfl rfl rfl ?_
    refine gl_mem (congrArg (fun z => ll z _) (if_neg (fun z => z.2 (by rw [hcN]; exact hs)))) ?_
    refine gl_top (((if_pos hok).trans (by rw [hcN]; exact if_pos hs) : pa_hold S n m (nI (v % m)) (nI (v / 5 % 2)) = -2)) ?_
    refine gl_bipush (pc := 385) (-2) C dL_cars_385 (by decide +kernel) ?_
    refine gl_icmp_ne (pc := 387) 394 C dL_cars_387 (by decide) (fun h387 => absurd h387 (not_not_intro rfl)) (fun h387 => ?_)
    refine gl_iconst (pc := 390) (nI 1) C dL_cars_390 (by decide) ?_
    refine gl_goto (pc := 391) 395 C dL_cars_391 (by decide) ?_
    exact gl_zret (pc := 395) C dL_cars_395 (by rfl) (rfl) (rfl)
  · skip
    refine gl_aload_3 (pc := 368) C dL_cars_368 ?_
    refine gl_iload_9 (pc := 369) C dL_cars_369 ?_
    refine gl_iald (pc := 371) _ C dL_cars_371 rfl rfl (by omega) ?_
    refine gl_top (ll_A.trans (en_C (w := 4) (by omega) (by omega))) ?_
    refine gl_iload_10 (pc := 372) C dL_cars_372 ?_
    refine gl_icmp_ne (pc := 374) 396 C dL_cars_374 (by decide) (fun h374 => absurd h374 (not_not_intro (hs.resolve_left h365))) (fun h374 => ?_)
    refine gl_aload_0 (pc := 377) C dL_cars_377 ?_
    refine gl_iload_8 (pc := 378) C dL_cars_378 ?_
    refine gl_iload_10 (pc := 380) C dL_cars_380 ?_
    refine gl_callVi (pc := 382) (gl_upC (ctX4_hold V.1 w (by omega) hS hp5 hp hq5 hqq (nI (v % m)) (nI (v / 5 % 2)))) C dL_cars_382 gL_cars_X4_hold rfl hdX4_hold ⟨rfl, rfl, Nat.le_of_ble_eq_true rfl, Nat.le_of_ble_eq_true rfl⟩ rfl (Nat.le_of_ble_eq_true rfl) rfl rfl rfl ?_
    refine gl_mem (congrArg (fun z => ll z _) (if_neg (fun z => z.2 (by rw [hcN]; exact hs)))) ?_
    refine gl_top (((if_pos hok).trans (by rw [hcN]; exact if_pos hs) : pa_hold S n m (nI (v % m)) (nI (v / 5 % 2)) = -2)) ?_
    refine gl_bipush (pc := 385) (-2) C dL_cars_385 (by decide +kernel) ?_
    refine gl_icmp_ne (pc := 387) 394 C dL_cars_387 (by decide) (fun h387 => absurd h387 (not_not_intro rfl)) (fun h387 => ?_)
    refine gl_iconst (pc := 390) (nI 1) C dL_cars_390 (by decide) ?_
    refine gl_goto (pc := 391) 395 C dL_cars_391 (by decide) ?_
    exact gl_zret (pc := 395) C dL_cars_395 (by rfl) (rfl) (rfl)
set_option maxRecDepth 100000 in
set_option maxHeartbeats 4000000 in
theorem ctL_cars_hold (F : gl_F) {n m t p q A : Nat} {G S : Nat → Int32} (I : qI n m t p q A G S) {v wy : Nat} (hv : v < 10000000) (hwy : wy < 24) (h2 : 2 ≤ wy) (h4 : wy < 4) (hm0 : 0 < m) (hs : ¬ (S (iC (v % m) 4) = nI 2 ∨ S (iC (v % m) 4) = (nI (v / 5 % 2)))) : gl_Ct F LL yL_cars wsL_cars rmL_cars [.ref (gl_r F 126), .ref (gl_r F 129), .ref (gl_r F 130), .ref (gl_r F 131), .ref (gl_r F 132), .ref (gl_r F 133), .int (nI v), .int (nI wy)] (ll G (en S n)) (some (.int (nI 1))) ((ll (sp_blk (sp_keepC G p q) 0 (upd S (iC (v % m) 4) (nI (v / 5 % 2)))) (en (upd S (iC (v % m) 4) (nI (v / 5 % 2))) n))) := by
  refine gl_met (cc := cL_cars) (maxL := 12) (ret := some .boolean) [some (.ref (gl_r F 126)), some (.ref (gl_r F 129)), some (.ref (gl_r F 130)), some (.ref (gl_r F 131)), some (.ref (gl_r F 132)), some (.ref (gl_r F 133)), some (.int (nI v)), some (.int (nI wy)), none, none, none, none] (plainFor_of_name (by decide)) rfl ok_LL (by simp [Value.category]) (Nat.le_of_ble_eq_true rfl) rfl (fun V hV C => ?_)
  subst hV
  obtain ⟨w, hq, ht1, hA, hS, hp5, hq5, hp, hqq, z⟩ := id I
  obtain ⟨hn40, hm5, hn, hm, ht, hcar, hcal⟩ := id w
  have hcm : v % m < m := Nat.mod_lt _ (by omega)
  have hcN : cN (nI (v % m)) = v % m := nI_clamp (by omega)
  have hh : sp_has (nI (v % m)) (nI m) := has_n hcm (by omega)
  have hy : sp_inr (nI (v / 5 % 2)) (nI 0) (nI 1) := inr_n (by omega) (by omega) (by omega)
  have hok := And.intro hh hy
  have wS := sp_W_st w hcm (nI (v / 5 % 2))
  have qS := q_lo (i := iC (v % m) 4) (x := (nI (v / 5 % 2))) (by unfold iC; omega) hq
  refine gl_iload_7 (pc := 0) C dL_cars_0 ?_
  refine gl_ifne (pc := 2) 215 C dL_cars_2 (by decide) (fun h2 => ?_) (fun h2 => absurd h2 (fun z => absurd (nI_z (by omega) z) (by omega)))
  refine gl_iload_7 (pc := 215) C dL_cars_215 ?_
  refine gl_iconst (pc := 217) (nI 1) C dL_cars_217 (by decide) ?_
  refine gl_icmp_ne (pc := 218) 289 C dL_cars_218 (by decide) (fun h218 => ?_) (fun h218 => absurd h218 (fun z => absurd ((nI_eq (by omega) (by omega)).mp z) (by omega)))
  refine gl_aload_1 (pc := 289) C dL_cars_289 ?_
  refine gl_iconst (pc := 290) (nI 1) C dL_cars_290 (by decide) ?_
  refine gl_iald (pc := 291) _ C dL_cars_291 rfl rfl (by omega) ?_
  refine gl_top (ll_A.trans ((en_i (by omega)).trans hm)) ?_
  refine gl_ifne (pc := 292) 329 C dL_cars_292 (by decide) (fun h292 => ?_) (fun h292 => absurd h292 (fun z => absurd (nI_z (by omega) z) (by omega)))
  refine gl_iload_6 (pc := 329) C dL_cars_329 ?_
  refine gl_aload_1 (pc := 331) C dL_cars_331 ?_
  refine gl_iconst (pc := 332) (nI 1) C dL_cars_332 (by decide) ?_
  refine gl_iald (pc := 333) _ C dL_cars_333 rfl rfl (by omega) ?_
  refine gl_top (ll_A.trans ((en_i (by omega)).trans hm)) ?_
  refine gl_irem (pc := 334) C dL_cars_334 (nI_ne0 (by omega) (by omega)) ?_
  refine gl_top (pk_rem (by omega) (by omega) (by omega)) ?_
  refine gl_istore_8 (pc := 335) C dL_cars_335 ?_
  refine gl_bipush (pc := 337) (nI 6) C dL_cars_337 (by decide +kernel) ?_
  refine gl_iload_8 (pc := 339) C dL_cars_339 ?_
  first | with_reducible refine gl_imulN (pc := 341) C dL_cars_341 ?_ | refine gl_imul (pc := 341) C dL_cars_341 ?_
  refine gl_iconst (pc := 342) (nI 4) C dL_cars_342 (by decide) ?_
  first | with_reducible refine gl_iaddN (pc := 343) C dL_cars_343 ?_ | refine gl_iadd (pc := 343) C dL_cars_343 ?_
  refine gl_istore_9 (pc := 344) C dL_cars_344 ?_
  refine gl_iload_7 (pc := 346) C dL_cars_346 ?_
  refine gl_iconst (pc := 348) (nI 4) C dL_cars_348 (by decide) ?_
  refine gl_icmp_ge (pc := 349) 438 C dL_cars_349 (by decide) (fun h349 => absurd h349 (fun z => absurd ((nI_leI (by omega) (by omega)).mp z) (by omega))) (fun h349 => ?_)
  refine gl_iload_6 (pc := 352) C dL_cars_352 ?_
  refine gl_iconst (pc := 354) (nI 5) C dL_cars_354 (by decide) ?_
  refine gl_idiv (pc := 355) C dL_cars_355 (by decide) ?_
  refine gl_top (pk_div (by omega) (by omega) (by omega)) ?_
  refine gl_iconst (pc := 356) (nI 2) C dL_cars_356 (by decide) ?_
  refine gl_irem (pc := 357) C dL_cars_357 (by decide) ?_
  refine gl_top (pk_rem (by omega) (by omega) (by omega)) ?_
  refine gl_istore_10 (pc := 358) C dL_cars_358 ?_
  refine gl_aload_3 (pc := 360) C dL_cars_360 ?_
  refine gl_iload_9 (pc := 361) C dL_cars_361 ?_
  refine gl_iald (pc := 363) _ C dL_cars_363 rfl rfl (by omega) ?_
  refine gl_top (ll_A.trans (en_C (w := 4) (by omega) (by omega))) ?_
  refine gl_iconst (pc := 364) (nI 2) C dL_cars_364 (by decide) ?_
  refine gl_icmp_eq (pc := 365) 377 C dL_cars_365 (by decide) (fun h365 => absurd h365 (fun z => hs (Or.inl z))) (fun h365 => ?_)
  refine gl_aload_3 (pc := 368) C dL_cars_368 ?_
  refine gl_iload_9 (pc := 369) C dL_cars_369 ?_
  refine gl_iald (pc := 371) _ C dL_cars_371 rfl rfl (by omega) ?_
  refine gl_top (ll_A.trans (en_C (w := 4) (by omega) (by omega))) ?_
  refine gl_iload_10 (pc := 372) C dL_cars_372 ?_
  refine gl_icmp_ne (pc := 374) 396 C dL_cars_374 (by decide) (fun h374 => ?_) (fun h374 => absurd h374 (fun z => hs (Or.inr z)))
  refine gl_aload_3 (pc := 396) C dL_cars_396 ?_
  refine gl_iload_9 (pc := 397) C dL_cars_397 ?_
  refine gl_iload_10 (pc := 399) C dL_cars_399 ?_
  refine gl_iast (pc := 401) _ C dL_cars_401 rfl rfl (by omega) ?_
  refine gl_mem (ll_u.trans (congrArg (ll G) (en_uC (w := 4) (by omega) (by omega)))) ?_
  refine gl_aload_0 (pc := 402) C dL_cars_402 ?_
  refine gl_iload_8 (pc := 403) C dL_cars_403 ?_
  refine gl_iload_10 (pc := 405) C dL_cars_405 ?_
  refine gl_callVi (pc := 407) (gl_upC (ctX4_hold V.1 w (by omega) hS hp5 hp hq5 hqq (nI (v % m)) (nI (v / 5 % 2)))) C dL_cars_407 gL_cars_X4_hold rfl hdX4_hold ⟨rfl, rfl, Nat.le_of_ble_eq_true rfl, Nat.le_of_ble_eq_true rfl⟩ rfl (Nat.le_of_ble_eq_true rfl) rfl rfl rfl ?_
  refine gl_mem (congrArg (fun z => ll z _) ((if_pos ⟨hok, by rw [hcN]; exact hs⟩).trans (by rw [hcN]))) ?_
  refine gl_top (((if_pos hok).trans (by rw [hcN]; exact if_neg hs) : pa_hold S n m (nI (v % m)) (nI (v / 5 % 2)) = sp_with (upd S (iC (v % m) 4) (nI (v / 5 % 2))) (nI (v % m)) n)) ?_
  refine gl_aload_1 (pc := 410) C dL_cars_410 ?_
  refine gl_aload_4 (pc := 411) C dL_cars_411 ?_
  refine gl_iload_8 (pc := 413) C dL_cars_413 ?_
  refine gl_iconst (pc := 415) (nI 1) C dL_cars_415 (by decide) ?_
  refine gl_callSi (pc := 416) (gl_upA (F := V.1) (ctL_those (gl_sh V.1 gl_eA) hn40 wS.2.2.1 qS (c := (v % m)) (by omega) (nI 1))) C dL_cars_416 gL_cars_L_those rfl hdL_those ⟨rfl, rfl, Nat.le_of_ble_eq_true rfl, Nat.le_of_ble_eq_true rfl⟩ rfl (Nat.le_of_ble_eq_true rfl) rfl ?_
  refine gl_aload_1 (pc := 419) C dL_cars_419 ?_
  refine gl_aload_4 (pc := 420) C dL_cars_420 ?_
  refine gl_iload_8 (pc := 422) C dL_cars_422 ?_
  refine gl_iconst (pc := 424) (nI 2) C dL_cars_424 (by decide) ?_
  refine gl_callSi (pc := 425) (gl_upA (F := V.1) (ctL_those (gl_sh V.1 gl_eA) hn40 wS.2.2.1 qS (c := (v % m)) (by omega) (nI 2))) C dL_cars_425 gL_cars_L_those rfl hdL_those ⟨rfl, rfl, Nat.le_of_ble_eq_true rfl, Nat.le_of_ble_eq_true rfl⟩ rfl (Nat.le_of_ble_eq_true rfl) rfl ?_
  first | with_reducible refine gl_iaddN (pc := 428) C dL_cars_428 ?_ | refine gl_iadd (pc := 428) C dL_cars_428 ?_
  refine gl_icmp_ne (pc := 429) 436 C dL_cars_429 (by decide) (fun h429 => absurd h429 (not_not_intro rfl)) (fun h429 => ?_)
  refine gl_iconst (pc := 432) (nI 1) C dL_cars_432 (by decide) ?_
  refine gl_goto (pc := 433) 437 C dL_cars_433 (by decide) ?_
  exact gl_zret (pc := 437) C dL_cars_437 (by rfl) (rfl) (rfl)
set_option maxRecDepth 100000 in
set_option maxHeartbeats 4000000 in
theorem ctL_cars_fail_no (F : gl_F) {n m t p q A : Nat} {G S : Nat → Int32} (I : qI n m t p q A G S) {v wy : Nat} (hv : v < 10000000) (hwy : wy < 24) (h4 : 4 ≤ wy) (hm0 : 0 < m) (h3 : v / 5 % 3 = 0) (hs : S (iC (v % m) 4) = nI 2) : gl_Ct F LL yL_cars wsL_cars rmL_cars [.ref (gl_r F 126), .ref (gl_r F 129), .ref (gl_r F 130), .ref (gl_r F 131), .ref (gl_r F 132), .ref (gl_r F 133), .int (nI v), .int (nI wy)] (ll G (en S n)) (some (.int (nI 1))) ((ll G (en S n))) := by
  refine gl_met (cc := cL_cars) (maxL := 12) (ret := some .boolean) [some (.ref (gl_r F 126)), some (.ref (gl_r F 129)), some (.ref (gl_r F 130)), some (.ref (gl_r F 131)), some (.ref (gl_r F 132)), some (.ref (gl_r F 133)), some (.int (nI v)), some (.int (nI wy)), none, none, none, none] (plainFor_of_name (by decide)) rfl ok_LL (by simp [Value.category]) (Nat.le_of_ble_eq_true rfl) rfl (fun V hV C => ?_)
  subst hV
  obtain ⟨w, hq, ht1, hA, hS, hp5, hq5, hp, hqq, z⟩ := id I
  obtain ⟨hn40, hm5, hn, hm, ht, hcar, hcal⟩ := id w
  have h2 : 2 ≤ wy := by omega
  have hcm : v % m < m := Nat.mod_lt _ (by omega)
  have hcN : cN (nI (v % m)) = v % m := nI_clamp (by omega)
  have hh : sp_has (nI (v % m)) (nI m) := has_n hcm (by omega)
  refine gl_iload_7 (pc := 0) C dL_cars_0 ?_
  refine gl_ifne (pc := 2) 215 C dL_cars_2 (by decide) (fun h2 => ?_) (fun h2 => absurd h2 (fun z => absurd (nI_z (by omega) z) (by omega)))
  refine gl_iload_7 (pc := 215) C dL_cars_215 ?_
  refine gl_iconst (pc := 217) (nI 1) C dL_cars_217 (by decide) ?_
  refine gl_icmp_ne (pc := 218) 289 C dL_cars_218 (by decide) (fun h218 => ?_) (fun h218 => absurd h218 (fun z => absurd ((nI_eq (by omega) (by omega)).mp z) (by omega)))
  refine gl_aload_1 (pc := 289) C dL_cars_289 ?_
  refine gl_iconst (pc := 290) (nI 1) C dL_cars_290 (by decide) ?_
  refine gl_iald (pc := 291) _ C dL_cars_291 rfl rfl (by omega) ?_
  refine gl_top (ll_A.trans ((en_i (by omega)).trans hm)) ?_
  refine gl_ifne (pc := 292) 329 C dL_cars_292 (by decide) (fun h292 => ?_) (fun h292 => absurd h292 (fun z => absurd (nI_z (by omega) z) (by omega)))
  refine gl_iload_6 (pc := 329) C dL_cars_329 ?_
  refine gl_aload_1 (pc := 331) C dL_cars_331 ?_
  refine gl_iconst (pc := 332) (nI 1) C dL_cars_332 (by decide) ?_
  refine gl_iald (pc := 333) _ C dL_cars_333 rfl rfl (by omega) ?_
  refine gl_top (ll_A.trans ((en_i (by omega)).trans hm)) ?_
  refine gl_irem (pc := 334) C dL_cars_334 (nI_ne0 (by omega) (by omega)) ?_
  refine gl_top (pk_rem (by omega) (by omega) (by omega)) ?_
  refine gl_istore_8 (pc := 335) C dL_cars_335 ?_
  refine gl_bipush (pc := 337) (nI 6) C dL_cars_337 (by decide +kernel) ?_
  refine gl_iload_8 (pc := 339) C dL_cars_339 ?_
  first | with_reducible refine gl_imulN (pc := 341) C dL_cars_341 ?_ | refine gl_imul (pc := 341) C dL_cars_341 ?_
  refine gl_iconst (pc := 342) (nI 4) C dL_cars_342 (by decide) ?_
  first | with_reducible refine gl_iaddN (pc := 343) C dL_cars_343 ?_ | refine gl_iadd (pc := 343) C dL_cars_343 ?_
  refine gl_istore_9 (pc := 344) C dL_cars_344 ?_
  refine gl_iload_7 (pc := 346) C dL_cars_346 ?_
  refine gl_iconst (pc := 348) (nI 4) C dL_cars_348 (by decide) ?_
  refine gl_icmp_ge (pc := 349) 438 C dL_cars_349 (by decide) (fun h349 => ?_) (fun h349 => absurd h349 (not_not_intro (nI_le (by omega) (by omega))))
  refine gl_iload_6 (pc := 438) C dL_cars_438 ?_
  refine gl_iconst (pc := 440) (nI 5) C dL_cars_440 (by decide) ?_
  refine gl_idiv (pc := 441) C dL_cars_441 (by decide) ?_
  refine gl_top (pk_div (by omega) (by omega) (by omega)) ?_
  refine gl_iconst (pc := 442) (nI 3) C dL_cars_442 (by decide) ?_
  refine gl_irem (pc := 443) C dL_cars_443 (by decide) ?_
  refine gl_top (pk_rem (by omega) (by omega) (by omega)) ?_
  refine gl_ifne (pc := 444) 506 C dL_cars_444 (by decide) (fun h444 => absurd h444 (not_not_intro (by rw [h3]; exact nI_0'))) (fun h444 => ?_)
  refine gl_aload_3 (pc := 447) C dL_cars_447 ?_
  refine gl_iload_9 (pc := 448) C dL_cars_448 ?_
  refine gl_iald (pc := 450) _ C dL_cars_450 rfl rfl (by omega) ?_
  refine gl_top (ll_A.trans (en_C (w := 4) (by omega) (by omega))) ?_
  refine gl_iconst (pc := 451) (nI 2) C dL_cars_451 (by decide) ?_
  refine gl_icmp_ne (pc := 452) 472 C dL_cars_452 (by decide) (fun h452 => absurd h452 (not_not_intro hs)) (fun h452 => ?_)
  refine gl_aload_0 (pc := 455) C dL_cars_455 ?_
  refine gl_iload_8 (pc := 456) C dL_cars_456 ?_
  refine gl_callVi (pc := 458) (gl_upC (ctX4_fail V.1 w (by omega) hS hp5 hp hq5 hqq (nI (v % m)))) C dL_cars_458 gL_cars_X4_fail rfl hdX4_fail ⟨rfl, rfl, Nat.le_of_ble_eq_true rfl, Nat.le_of_ble_eq_true rfl⟩ rfl (Nat.le_of_ble_eq_true rfl) rfl rfl rfl ?_
  refine gl_mem (congrArg (fun z => ll z _) (if_neg (fun z => z.2 (by rw [hcN]; exact hs)))) ?_
  refine gl_top (((if_pos hh).trans (by rw [hcN]; exact if_pos hs) : pa_fail S n m t (nI (v % m)) = -2)) ?_
  refine gl_bipush (pc := 461) (-2) C dL_cars_461 (by decide +kernel) ?_
  refine gl_icmp_ne (pc := 463) 470 C dL_cars_463 (by decide) (fun h463 => absurd h463 (not_not_intro rfl)) (fun h463 => ?_)
  refine gl_iconst (pc := 466) (nI 1) C dL_cars_466 (by decide) ?_
  refine gl_goto (pc := 467) 471 C dL_cars_467 (by decide) ?_
  exact gl_zret (pc := 471) C dL_cars_471 (by rfl) (rfl) (rfl)
set_option maxRecDepth 100000 in
set_option maxHeartbeats 4000000 in
theorem ctL_cars_fail (F : gl_F) {n m t p q A : Nat} {G S : Nat → Int32} (I : qI n m t p q A G S) {v wy : Nat} (hv : v < 10000000) (hwy : wy < 24) (h4 : 4 ≤ wy) (hm0 : 0 < m) (h3 : v / 5 % 3 = 0) (hs : ¬ S (iC (v % m) 4) = nI 2) : gl_Ct F LL yL_cars wsL_cars rmL_cars [.ref (gl_r F 126), .ref (gl_r F 129), .ref (gl_r F 130), .ref (gl_r F 131), .ref (gl_r F 132), .ref (gl_r F 133), .int (nI v), .int (nI wy)] (ll G (en S n)) (some (.int (nI 1))) ((ll (sp_blk (sp_keepC G p q) 0 (sp_fail S (v % m) t n)) (en (sp_fail S (v % m) t n) n))) := by
  refine gl_met (cc := cL_cars) (maxL := 12) (ret := some .boolean) [some (.ref (gl_r F 126)), some (.ref (gl_r F 129)), some (.ref (gl_r F 130)), some (.ref (gl_r F 131)), some (.ref (gl_r F 132)), some (.ref (gl_r F 133)), some (.int (nI v)), some (.int (nI wy)), none, none, none, none] (plainFor_of_name (by decide)) rfl ok_LL (by simp [Value.category]) (Nat.le_of_ble_eq_true rfl) rfl (fun V hV C => ?_)
  subst hV
  obtain ⟨w, hq, ht1, hA, hS, hp5, hq5, hp, hqq, z⟩ := id I
  obtain ⟨hn40, hm5, hn, hm, ht, hcar, hcal⟩ := id w
  have h2 : 2 ≤ wy := by omega
  have hcm : v % m < m := Nat.mod_lt _ (by omega)
  have hcN : cN (nI (v % m)) = v % m := nI_clamp (by omega)
  have hh : sp_has (nI (v % m)) (nI m) := has_n hcm (by omega)
  refine gl_iload_7 (pc := 0) C dL_cars_0 ?_
  refine gl_ifne (pc := 2) 215 C dL_cars_2 (by decide) (fun h2 => ?_) (fun h2 => absurd h2 (fun z => absurd (nI_z (by omega) z) (by omega)))
  refine gl_iload_7 (pc := 215) C dL_cars_215 ?_
  refine gl_iconst (pc := 217) (nI 1) C dL_cars_217 (by decide) ?_
  refine gl_icmp_ne (pc := 218) 289 C dL_cars_218 (by decide) (fun h218 => ?_) (fun h218 => absurd h218 (fun z => absurd ((nI_eq (by omega) (by omega)).mp z) (by omega)))
  refine gl_aload_1 (pc := 289) C dL_cars_289 ?_
  refine gl_iconst (pc := 290) (nI 1) C dL_cars_290 (by decide) ?_
  refine gl_iald (pc := 291) _ C dL_cars_291 rfl rfl (by omega) ?_
  refine gl_top (ll_A.trans ((en_i (by omega)).trans hm)) ?_
  refine gl_ifne (pc := 292) 329 C dL_cars_292 (by decide) (fun h292 => ?_) (fun h292 => absurd h292 (fun z => absurd (nI_z (by omega) z) (by omega)))
  refine gl_iload_6 (pc := 329) C dL_cars_329 ?_
  refine gl_aload_1 (pc := 331) C dL_cars_331 ?_
  refine gl_iconst (pc := 332) (nI 1) C dL_cars_332 (by decide) ?_
  refine gl_iald (pc := 333) _ C dL_cars_333 rfl rfl (by omega) ?_
  refine gl_top (ll_A.trans ((en_i (by omega)).trans hm)) ?_
  refine gl_irem (pc := 334) C dL_cars_334 (nI_ne0 (by omega) (by omega)) ?_
  refine gl_top (pk_rem (by omega) (by omega) (by omega)) ?_
  refine gl_istore_8 (pc := 335) C dL_cars_335 ?_
  refine gl_bipush (pc := 337) (nI 6) C dL_cars_337 (by decide +kernel) ?_
  refine gl_iload_8 (pc := 339) C dL_cars_339 ?_
  first | with_reducible refine gl_imulN (pc := 341) C dL_cars_341 ?_ | refine gl_imul (pc := 341) C dL_cars_341 ?_
  refine gl_iconst (pc := 342) (nI 4) C dL_cars_342 (by decide) ?_
  first | with_reducible refine gl_iaddN (pc := 343) C dL_cars_343 ?_ | refine gl_iadd (pc := 343) C dL_cars_343 ?_
  refine gl_istore_9 (pc := 344) C dL_cars_344 ?_
  refine gl_iload_7 (pc := 346) C dL_cars_346 ?_
  refine gl_iconst (pc := 348) (nI 4) C dL_cars_348 (by decide) ?_
  refine gl_icmp_ge (pc := 349) 438 C dL_cars_349 (by decide) (fun h349 => ?_) (fun h349 => absurd h349 (not_not_intro (nI_le (by omega) (by omega))))
  refine gl_iload_6 (pc := 438) C dL_cars_438 ?_
  refine gl_iconst (pc := 440) (nI 5) C dL_cars_440 (by decide) ?_
  refine gl_idiv (pc := 441) C dL_cars_441 (by decide) ?_
  refine gl_top (pk_div (by omega) (by omega) (by omega)) ?_
  refine gl_iconst (pc := 442) (nI 3) C dL_cars_442 (by decide) ?_
  refine gl_irem (pc := 443) C dL_cars_443 (by decide) ?_
  refine gl_top (pk_rem (by omega) (by omega) (by omega)) ?_
  refine gl_ifne (pc := 444) 506 C dL_cars_444 (by decide) (fun h444 => absurd h444 (not_not_intro (by rw [h3]; exact nI_0'))) (fun h444 => ?_)
  refine gl_aload_3 (pc := 447) C dL_cars_447 ?_
  refine gl_iload_9 (pc := 448) C dL_cars_448 ?_
  refine gl_iald (pc := 450) _ C dL_cars_450 rfl rfl (by omega) ?_
  refine gl_top (ll_A.trans (en_C (w := 4) (by omega) (by omega))) ?_
  refine gl_iconst (pc := 451) (nI 2) C dL_cars_451 (by decide) ?_
  refine gl_icmp_ne (pc := 452) 472 C dL_cars_452 (by decide) (fun h452 => ?_) (fun h452 => absurd h452 (fun z => hs z))
  refine gl_aload_1 (pc := 472) C dL_cars_472 ?_
  refine gl_aload_3 (pc := 473) C dL_cars_473 ?_
  refine gl_aload_4 (pc := 474) C dL_cars_474 ?_
  refine gl_aload_5 (pc := 476) C dL_cars_476 ?_
  refine gl_iload_8 (pc := 478) C dL_cars_478 ?_
  refine gl_callSv (pc := 480) (gl_upA (F := V.1) (ctL_fails (gl_sh V.1 gl_eA) w (by omega) hq hcm (by omega))) C dL_cars_480 gL_cars_L_fails rfl hdL_fails ⟨rfl, rfl, Nat.le_of_ble_eq_true rfl, Nat.le_of_ble_eq_true rfl⟩ rfl (Nat.le_of_ble_eq_true rfl) rfl ?_
  refine gl_aload_0 (pc := 483) C dL_cars_483 ?_
  refine gl_iload_8 (pc := 484) C dL_cars_484 ?_
  refine gl_callVi (pc := 486) (gl_upC (ctX4_fail V.1 w (by omega) hS hp5 hp hq5 hqq (nI (v % m)))) C dL_cars_486 gL_cars_X4_fail rfl hdX4_fail ⟨rfl, rfl, Nat.le_of_ble_eq_true rfl, Nat.le_of_ble_eq_true rfl⟩ rfl (Nat.le_of_ble_eq_true rfl) rfl rfl rfl ?_
  refine gl_mem (congrArg (fun z => ll z _) ((if_pos ⟨hh, by rw [hcN]; exact hs⟩).trans (by rw [hcN]))) ?_
  refine gl_top (((if_pos hh).trans (by rw [hcN]; exact if_neg hs) : pa_fail S n m t (nI (v % m)) = sp_in (sp_fail S (v % m) t n) (nI 0) n)) ?_
  refine gl_aload_1 (pc := 489) C dL_cars_489 ?_
  refine gl_aload_4 (pc := 490) C dL_cars_490 ?_
  refine gl_iconst (pc := 492) (-1) C dL_cars_492 (by decide) ?_
  refine gl_iconst (pc := 493) (nI 0) C dL_cars_493 (by decide) ?_
  refine gl_callSi (pc := 494) (gl_upA (F := V.1) (ctL_those_all (gl_sh V.1 gl_eA) hn40 (sp_fail_W w hcm).2.2.1 (q_fail hq (by omega) (by omega) hcm (by omega) w) (nI 0))) C dL_cars_494 gL_cars_L_those rfl hdL_those ⟨rfl, rfl, Nat.le_of_ble_eq_true rfl, Nat.le_of_ble_eq_true rfl⟩ rfl (Nat.le_of_ble_eq_true rfl) rfl ?_
  refine gl_icmp_ne (pc := 497) 504 C dL_cars_497 (by decide) (fun h497 => absurd h497 (not_not_intro rfl)) (fun h497 => ?_)
  refine gl_iconst (pc := 500) (nI 1) C dL_cars_500 (by decide) ?_
  refine gl_goto (pc := 501) 505 C dL_cars_501 (by decide) ?_
  exact gl_zret (pc := 505) C dL_cars_505 (by rfl) (rfl) (rfl)
set_option maxRecDepth 100000 in
set_option maxHeartbeats 4000000 in
theorem ctL_cars_rep_no (F : gl_F) {n m t p q A : Nat} {G S : Nat → Int32} (I : qI n m t p q A G S) {v wy : Nat} (hv : v < 10000000) (hwy : wy < 24) (h4 : 4 ≤ wy) (hm0 : 0 < m) (h3 : ¬ v / 5 % 3 = 0) (hs : ¬ S (iC (v % m) 4) = nI 2) : gl_Ct F LL yL_cars wsL_cars rmL_cars [.ref (gl_r F 126), .ref (gl_r F 129), .ref (gl_r F 130), .ref (gl_r F 131), .ref (gl_r F 132), .ref (gl_r F 133), .int (nI v), .int (nI wy)] (ll G (en S n)) (some (.int (nI 1))) ((ll G (en S n))) := by
  refine gl_met (cc := cL_cars) (maxL := 12) (ret := some .boolean) [some (.ref (gl_r F 126)), some (.ref (gl_r F 129)), some (.ref (gl_r F 130)), some (.ref (gl_r F 131)), some (.ref (gl_r F 132)), some (.ref (gl_r F 133)), some (.int (nI v)), some (.int (nI wy)), none, none, none, none] (plainFor_of_name (by decide)) rfl ok_LL (by simp [Value.category]) (Nat.le_of_ble_eq_true rfl) rfl (fun V hV C => ?_)
  subst hV
  obtain ⟨w, hq, ht1, hA, hS, hp5, hq5, hp, hqq, z⟩ := id I
  obtain ⟨hn40, hm5, hn, hm, ht, hcar, hcal⟩ := id w
  have h2 : 2 ≤ wy := by omega
  have hcm : v % m < m := Nat.mod_lt _ (by omega)
  have hcN : cN (nI (v % m)) = v % m := nI_clamp (by omega)
  have hh : sp_has (nI (v % m)) (nI m) := has_n hcm (by omega)
  refine gl_iload_7 (pc := 0) C dL_cars_0 ?_
  refine gl_ifne (pc := 2) 215 C dL_cars_2 (by decide) (fun h2 => ?_) (fun h2 => absurd h2 (fun z => absurd (nI_z (by omega) z) (by omega)))
  refine gl_iload_7 (pc := 215) C dL_cars_215 ?_
  refine gl_iconst (pc := 217) (nI 1) C dL_cars_217 (by decide) ?_
  refine gl_icmp_ne (pc := 218) 289 C dL_cars_218 (by decide) (fun h218 => ?_) (fun h218 => absurd h218 (fun z => absurd ((nI_eq (by omega) (by omega)).mp z) (by omega)))
  refine gl_aload_1 (pc := 289) C dL_cars_289 ?_
  refine gl_iconst (pc := 290) (nI 1) C dL_cars_290 (by decide) ?_
  refine gl_iald (pc := 291) _ C dL_cars_291 rfl rfl (by omega) ?_
  refine gl_top (ll_A.trans ((en_i (by omega)).trans hm)) ?_
  refine gl_ifne (pc := 292) 329 C dL_cars_292 (by decide) (fun h292 => ?_) (fun h292 => absurd h292 (fun z => absurd (nI_z (by omega) z) (by omega)))
  refine gl_iload_6 (pc := 329) C dL_cars_329 ?_
  refine gl_aload_1 (pc := 331) C dL_cars_331 ?_
  refine gl_iconst (pc := 332) (nI 1) C dL_cars_332 (by decide) ?_
  refine gl_iald (pc := 333) _ C dL_cars_333 rfl rfl (by omega) ?_
  refine gl_top (ll_A.trans ((en_i (by omega)).trans hm)) ?_
  refine gl_irem (pc := 334) C dL_cars_334 (nI_ne0 (by omega) (by omega)) ?_
  refine gl_top (pk_rem (by omega) (by omega) (by omega)) ?_
  refine gl_istore_8 (pc := 335) C dL_cars_335 ?_
  refine gl_bipush (pc := 337) (nI 6) C dL_cars_337 (by decide +kernel) ?_
  refine gl_iload_8 (pc := 339) C dL_cars_339 ?_
  first | with_reducible refine gl_imulN (pc := 341) C dL_cars_341 ?_ | refine gl_imul (pc := 341) C dL_cars_341 ?_
  refine gl_iconst (pc := 342) (nI 4) C dL_cars_342 (by decide) ?_
  first | with_reducible refine gl_iaddN (pc := 343) C dL_cars_343 ?_ | refine gl_iadd (pc := 343) C dL_cars_343 ?_
  refine gl_istore_9 (pc := 344) C dL_cars_344 ?_
  refine gl_iload_7 (pc := 346) C dL_cars_346 ?_
  refine gl_iconst (pc := 348) (nI 4) C dL_cars_348 (by decide) ?_
  refine gl_icmp_ge (pc := 349) 438 C dL_cars_349 (by decide) (fun h349 => ?_) (fun h349 => absurd h349 (not_not_intro (nI_le (by omega) (by omega))))
  refine gl_iload_6 (pc := 438) C dL_cars_438 ?_
  refine gl_iconst (pc := 440) (nI 5) C dL_cars_440 (by decide) ?_
  refine gl_idiv (pc := 441) C dL_cars_441 (by decide) ?_
  refine gl_top (pk_div (by omega) (by omega) (by omega)) ?_
  refine gl_iconst (pc := 442) (nI 3) C dL_cars_442 (by decide) ?_
  refine gl_irem (pc := 443) C dL_cars_443 (by decide) ?_
  refine gl_top (pk_rem (by omega) (by omega) (by omega)) ?_
  refine gl_ifne (pc := 444) 506 C dL_cars_444 (by decide) (fun h444 => ?_) (fun h444 => absurd h444 (fun z => h3 (nI_z (by omega) z)))
  refine gl_aload_3 (pc := 506) C dL_cars_506 ?_
  refine gl_iload_9 (pc := 507) C dL_cars_507 ?_
  refine gl_iald (pc := 509) _ C dL_cars_509 rfl rfl (by omega) ?_
  refine gl_top (ll_A.trans (en_C (w := 4) (by omega) (by omega))) ?_
  refine gl_iconst (pc := 510) (nI 2) C dL_cars_510 (by decide) ?_
  refine gl_icmp_eq (pc := 511) 531 C dL_cars_511 (by decide) (fun h511 => absurd h511 (fun z => hs z)) (fun h511 => ?_)
  refine gl_aload_0 (pc := 514) C dL_cars_514 ?_
  refine gl_iload_8 (pc := 515) C dL_cars_515 ?_
  refine gl_callVi (pc := 517) (gl_upC (ctX4_repair V.1 w (by omega) hS hp5 hp hq5 hqq (nI (v % m)))) C dL_cars_517 gL_cars_X4_repair rfl hdX4_repair ⟨rfl, rfl, Nat.le_of_ble_eq_true rfl, Nat.le_of_ble_eq_true rfl⟩ rfl (Nat.le_of_ble_eq_true rfl) rfl rfl rfl ?_
  refine gl_mem (congrArg (fun z => ll z _) (if_neg (fun z => hs (by rw [← hcN]; exact z.2)))) ?_
  refine gl_top (((if_pos hh).trans (by rw [hcN]; exact if_neg hs) : pa_repair S m (nI (v % m)) = -2)) ?_
  refine gl_bipush (pc := 520) (-2) C dL_cars_520 (by decide +kernel) ?_
  refine gl_icmp_ne (pc := 522) 529 C dL_cars_522 (by decide) (fun h522 => absurd h522 (not_not_intro rfl)) (fun h522 => ?_)
  refine gl_iconst (pc := 525) (nI 1) C dL_cars_525 (by decide) ?_
  refine gl_goto (pc := 526) 530 C dL_cars_526 (by decide) ?_
  exact gl_zret (pc := 530) C dL_cars_530 (by rfl) (rfl) (rfl)
set_option maxRecDepth 100000 in
set_option maxHeartbeats 4000000 in
theorem ctL_cars_rep (F : gl_F) {n m t p q A : Nat} {G S : Nat → Int32} (I : qI n m t p q A G S) {v wy : Nat} (hv : v < 10000000) (hwy : wy < 24) (h4 : 4 ≤ wy) (hm0 : 0 < m) (h3 : ¬ v / 5 % 3 = 0) (hs : S (iC (v % m) 4) = nI 2) : gl_Ct F LL yL_cars wsL_cars rmL_cars [.ref (gl_r F 126), .ref (gl_r F 129), .ref (gl_r F 130), .ref (gl_r F 131), .ref (gl_r F 132), .ref (gl_r F 133), .int (nI v), .int (nI wy)] (ll G (en S n)) (some (.int (nI 1))) ((ll (sp_blk (sp_keepC G p q) 0 (upd S (iC (v % m) 4) (nI 0))) (en (upd S (iC (v % m) 4) (nI 0)) n))) := by
  refine gl_met (cc := cL_cars) (maxL := 12) (ret := some .boolean) [some (.ref (gl_r F 126)), some (.ref (gl_r F 129)), some (.ref (gl_r F 130)), some (.ref (gl_r F 131)), some (.ref (gl_r F 132)), some (.ref (gl_r F 133)), some (.int (nI v)), some (.int (nI wy)), none, none, none, none] (plainFor_of_name (by decide)) rfl ok_LL (by simp [Value.category]) (Nat.le_of_ble_eq_true rfl) rfl (fun V hV C => ?_)
  subst hV
  obtain ⟨w, hq, ht1, hA, hS, hp5, hq5, hp, hqq, z⟩ := id I
  obtain ⟨hn40, hm5, hn, hm, ht, hcar, hcal⟩ := id w
  have h2 : 2 ≤ wy := by omega
  have hcm : v % m < m := Nat.mod_lt _ (by omega)
  have hcN : cN (nI (v % m)) = v % m := nI_clamp (by omega)
  have hh : sp_has (nI (v % m)) (nI m) := has_n hcm (by omega)
  refine gl_iload_7 (pc := 0) C dL_cars_0 ?_
  refine gl_ifne (pc := 2) 215 C dL_cars_2 (by decide) (fun h2 => ?_) (fun h2 => absurd h2 (fun z => absurd (nI_z (by omega) z) (by omega)))
  refine gl_iload_7 (pc := 215) C dL_cars_215 ?_
  refine gl_iconst (pc := 217) (nI 1) C dL_cars_217 (by decide) ?_
  refine gl_icmp_ne (pc := 218) 289 C dL_cars_218 (by decide) (fun h218 => ?_) (fun h218 => absurd h218 (fun z => absurd ((nI_eq (by omega) (by omega)).mp z) (by omega)))
  refine gl_aload_1 (pc := 289) C dL_cars_289 ?_
  refine gl_iconst (pc := 290) (nI 1) C dL_cars_290 (by decide) ?_
  refine gl_iald (pc := 291) _ C dL_cars_291 rfl rfl (by omega) ?_
  refine gl_top (ll_A.trans ((en_i (by omega)).trans hm)) ?_
  refine gl_ifne (pc := 292) 329 C dL_cars_292 (by decide) (fun h292 => ?_) (fun h292 => absurd h292 (fun z => absurd (nI_z (by omega) z) (by omega)))
  refine gl_iload_6 (pc := 329) C dL_cars_329 ?_
  refine gl_aload_1 (pc := 331) C dL_cars_331 ?_
  refine gl_iconst (pc := 332) (nI 1) C dL_cars_332 (by decide) ?_
  refine gl_iald (pc := 333) _ C dL_cars_333 rfl rfl (by omega) ?_
  refine gl_top (ll_A.trans ((en_i (by omega)).trans hm)) ?_
  refine gl_irem (pc := 334) C dL_cars_334 (nI_ne0 (by omega) (by omega)) ?_
  refine gl_top (pk_rem (by omega) (by omega) (by omega)) ?_
  refine gl_istore_8 (pc := 335) C dL_cars_335 ?_
  refine gl_bipush (pc := 337) (nI 6) C dL_cars_337 (by decide +kernel) ?_
  refine gl_iload_8 (pc := 339) C dL_cars_339 ?_
  first | with_reducible refine gl_imulN (pc := 341) C dL_cars_341 ?_ | refine gl_imul (pc := 341) C dL_cars_341 ?_
  refine gl_iconst (pc := 342) (nI 4) C dL_cars_342 (by decide) ?_
  first | with_reducible refine gl_iaddN (pc := 343) C dL_cars_343 ?_ | refine gl_iadd (pc := 343) C dL_cars_343 ?_
  refine gl_istore_9 (pc := 344) C dL_cars_344 ?_
  refine gl_iload_7 (pc := 346) C dL_cars_346 ?_
  refine gl_iconst (pc := 348) (nI 4) C dL_cars_348 (by decide) ?_
  refine gl_icmp_ge (pc := 349) 438 C dL_cars_349 (by decide) (fun h349 => ?_) (fun h349 => absurd h349 (not_not_intro (nI_le (by omega) (by omega))))
  refine gl_iload_6 (pc := 438) C dL_cars_438 ?_
  refine gl_iconst (pc := 440) (nI 5) C dL_cars_440 (by decide) ?_
  refine gl_idiv (pc := 441) C dL_cars_441 (by decide) ?_
  refine gl_top (pk_div (by omega) (by omega) (by omega)) ?_
  refine gl_iconst (pc := 442) (nI 3) C dL_cars_442 (by decide) ?_
  refine gl_irem (pc := 443) C dL_cars_443 (by decide) ?_
  refine gl_top (pk_rem (by omega) (by omega) (by omega)) ?_
  refine gl_ifne (pc := 444) 506 C dL_cars_444 (by decide) (fun h444 => ?_) (fun h444 => absurd h444 (fun z => h3 (nI_z (by omega) z)))
  refine gl_aload_3 (pc := 506) C dL_cars_506 ?_
  refine gl_iload_9 (pc := 507) C dL_cars_507 ?_
  refine gl_iald (pc := 509) _ C dL_cars_509 rfl rfl (by omega) ?_
  refine gl_top (ll_A.trans (en_C (w := 4) (by omega) (by omega))) ?_
  refine gl_iconst (pc := 510) (nI 2) C dL_cars_510 (by decide) ?_
  refine gl_icmp_eq (pc := 511) 531 C dL_cars_511 (by decide) (fun h511 => ?_) (fun h511 => absurd h511 (not_not_intro hs))
  refine gl_aload_3 (pc := 531) C dL_cars_531 ?_
  refine gl_iload_9 (pc := 532) C dL_cars_532 ?_
  refine gl_iconst (pc := 534) (nI 0) C dL_cars_534 (by decide) ?_
  refine gl_iast (pc := 535) _ C dL_cars_535 rfl rfl (by omega) ?_
  refine gl_mem (ll_u.trans (congrArg (ll G) (en_uC (w := 4) (by omega) (by omega)))) ?_
  refine gl_aload_0 (pc := 536) C dL_cars_536 ?_
  refine gl_iload_8 (pc := 537) C dL_cars_537 ?_
  refine gl_callVi (pc := 539) (gl_upC (ctX4_repair V.1 w (by omega) hS hp5 hp hq5 hqq (nI (v % m)))) C dL_cars_539 gL_cars_X4_repair rfl hdX4_repair ⟨rfl, rfl, Nat.le_of_ble_eq_true rfl, Nat.le_of_ble_eq_true rfl⟩ rfl (Nat.le_of_ble_eq_true rfl) rfl rfl rfl ?_
  refine gl_mem (congrArg (fun z => ll z _) ((if_pos ⟨hh, by rw [hcN]; exact hs⟩).trans (by rw [hcN]))) ?_
  refine gl_top (((if_pos hh).trans (by rw [hcN]; exact if_pos hs) : pa_repair S m (nI (v % m)) = S (iC (v % m) 3))) ?_
  refine gl_aload_3 (pc := 542) C dL_cars_542 ?_
  refine gl_iload_9 (pc := 543) C dL_cars_543 ?_
  refine gl_iconst (pc := 545) (nI 1) C dL_cars_545 (by decide) ?_
  refine gl_isub (pc := 546) C dL_cars_546 ?_
  refine gl_top (y := nI (6 * (v % m) + 3)) (pk_sub (by omega)) ?_
  refine gl_iald (pc := 547) _ C dL_cars_547 rfl rfl (by omega) ?_
  refine gl_top (ll_A.trans ((en_C (w := 3) (by omega) (by omega)).trans (rC (by omega) (by omega) (by omega)))) ?_
  refine gl_icmp_ne (pc := 548) 555 C dL_cars_548 (by decide) (fun h548 => absurd h548 (not_not_intro rfl)) (fun h548 => ?_)
  refine gl_iconst (pc := 551) (nI 1) C dL_cars_551 (by decide) ?_
  refine gl_goto (pc := 552) 556 C dL_cars_552 (by decide) ?_
  exact gl_zret (pc := 556) C dL_cars_556 (by rfl) (rfl) (rfl)
