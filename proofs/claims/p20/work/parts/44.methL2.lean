set_option maxRecDepth 100000 in
set_option maxHeartbeats 4000000 in
theorem ctL_cost (F : gl_F) {n m t A : Nat} {S : Nat → Int32} (w : sp_W n m t S) (ht31 : t < 1048575) (q : qW S A n) {c : Nat} (hc : c < m) {f g : Int32} (hf : sp_fl f) (hg : sp_fl g) : gl_Ct F LA yL_cost wsL_cost rmL_cost [.ref (gl_r F 0), .ref (gl_r F 1), .ref (gl_r F 2), .ref (gl_r F 3), .int (nI c), .int f, .int g] (en S n) (some (.int (lg_its S t n c f g))) ((en S n)) := by
  refine gl_met (cc := cL_cost) (maxL := 10) (ret := some .int) [some (.ref (gl_r F 0)), some (.ref (gl_r F 1)), some (.ref (gl_r F 2)), some (.ref (gl_r F 3)), some (.int (nI c)), some (.int f), some (.int g), none, none, none] (plainFor_of_name (by decide)) rfl ok_LA (by simp [Value.category]) (Nat.le_of_ble_eq_true rfl) rfl (fun V hV C => ?_)
  subst hV
  obtain ⟨hn40, hm5, hn, hm, ht, hcar, hcal⟩ := id w
  refine gl_bipush (pc := 0) (nI 6) C dL_cost_0 (by decide +kernel) ?_
  refine gl_iload_4 (pc := 2) C dL_cost_2 ?_
  first | with_reducible refine gl_imulN (pc := 4) C dL_cost_4 ?_ | refine gl_imul (pc := 4) C dL_cost_4 ?_
  refine gl_istore_7 (pc := 5) C dL_cost_5 ?_
  refine gl_iload_5 (pc := 7) C dL_cost_7 ?_
  refine gl_iload_6 (pc := 9) C dL_cost_9 ?_
  refine gl_icmp_ge (pc := 11) 19 C dL_cost_11 (by decide) (fun h11 => ?_) (fun h11 => ?_)
  · skip
    replace h11 := Int32.not_lt.mpr h11
    refine gl_iload_6 (pc := 19) C dL_cost_19 ?_
    refine gl_istore_8 (pc := 21) C dL_cost_21 ?_
    refine gl_iload_5 (pc := 23) C dL_cost_23 ?_
    refine gl_iload_6 (pc := 25) C dL_cost_25 ?_
    refine gl_icmp_ge (pc := 27) 35 C dL_cost_27 (by decide) (fun h27 => ?_) (fun h27 => absurd h27 (not_not_intro (Int32.not_lt.mp h11)))
    refine gl_iload_5 (pc := 35) C dL_cost_35 ?_
    refine gl_istore_9 (pc := 37) C dL_cost_37 ?_
    refine gl_aload_2 (pc := 39) C dL_cost_39 ?_
    refine gl_iload_7 (pc := 40) C dL_cost_40 ?_
    refine gl_iconst (pc := 42) (nI 4) C dL_cost_42 (by decide) ?_
    first | with_reducible refine gl_iaddN (pc := 43) C dL_cost_43 ?_ | refine gl_iadd (pc := 43) C dL_cost_43 ?_
    refine gl_iald (pc := 44) _ C dL_cost_44 rfl rfl (by omega) ?_
    refine gl_top (en_C (w := 4) (by omega) (by omega)) ?_
    refine gl_ifne (pc := 45) 84 C dL_cost_45 (by decide) (fun h45 => ?_) (fun h45 => ?_)
    · skip
      have hno : ¬ sp_can S t c f g := fun z => h45 z.1
      refine gl_bipush (pc := 84) (-9) C dL_cost_84 (by decide +kernel) ?_
      exact gl_iret (pc := 86) C dL_cost_86 ((if_neg hno).symm) (rfl)
    · skip
      refine gl_iload_4 (pc := 48) C dL_cost_48 ?_
      refine gl_aload_1 (pc := 50) C dL_cost_50 ?_
      refine gl_aload_0 (pc := 51) C dL_cost_51 ?_
      refine gl_iconst (pc := 52) (nI 0) C dL_cost_52 (by decide) ?_
      refine gl_iald (pc := 53) _ C dL_cost_53 rfl rfl (by omega) ?_
      refine gl_top ((en_i (by omega)).trans ht) ?_
      refine gl_bipush (pc := 54) (nI 60) C dL_cost_54 (by decide +kernel) ?_
      refine gl_idiv (pc := 56) C dL_cost_56 (by decide) ?_
      refine gl_top (pk_div (by omega) (by omega) (by omega)) ?_
      refine gl_bipush (pc := 57) (nI 24) C dL_cost_57 (by decide +kernel) ?_
      refine gl_irem (pc := 59) C dL_cost_59 (by decide) ?_
      refine gl_top (pk_rem (by omega) (by omega) (by omega)) ?_
      refine gl_iald (pc := 60) _ C dL_cost_60 rfl rfl (by omega) ?_
      refine gl_top (en_i (by omega)) ?_
      refine gl_icmp_ge (pc := 61) 84 C dL_cost_61 (by decide) (fun h61 => ?_) (fun h61 => ?_)
      · skip
        have hno : ¬ sp_can S t c f g := fun z => z.2.1 h61
        refine gl_bipush (pc := 84) (-9) C dL_cost_84 (by decide +kernel) ?_
        exact gl_iret (pc := 86) C dL_cost_86 ((if_neg hno).symm) (rfl)
      · skip
        refine gl_iload_8 (pc := 64) C dL_cost_64 ?_
        refine gl_aload_2 (pc := 66) C dL_cost_66 ?_
        refine gl_iload_7 (pc := 67) C dL_cost_67 ?_
        refine gl_iald (pc := 69) _ C dL_cost_69 rfl rfl (by omega) ?_
        refine gl_top (en_C (w := 0) (by omega) (by omega)) ?_
        refine gl_icmp_lt (pc := 70) 84 C dL_cost_70 (by decide) (fun h70 => ?_) (fun h70 => ?_)
        · skip
          have hno : ¬ sp_can S t c f g := fun z => by first | exact ((lg_sv1 h11).mpr z.2.2).1 h70 | exact ((lg_sv2 h11).mpr z.2.2).1 h70
          refine gl_bipush (pc := 84) (-9) C dL_cost_84 (by decide +kernel) ?_
          exact gl_iret (pc := 86) C dL_cost_86 ((if_neg hno).symm) (rfl)
        · skip
          refine gl_iload_9 (pc := 73) C dL_cost_73 ?_
          refine gl_aload_2 (pc := 75) C dL_cost_75 ?_
          refine gl_iload_7 (pc := 76) C dL_cost_76 ?_
          refine gl_iconst (pc := 78) (nI 1) C dL_cost_78 (by decide) ?_
          first | with_reducible refine gl_iaddN (pc := 79) C dL_cost_79 ?_ | refine gl_iadd (pc := 79) C dL_cost_79 ?_
          refine gl_iald (pc := 80) _ C dL_cost_80 rfl rfl (by omega) ?_
          refine gl_top (en_C (w := 1) (by omega) (by omega)) ?_
          refine gl_icmp_le (pc := 81) 87 C dL_cost_81 (by decide) (fun h81 => ?_) (fun h81 => ?_)
          · skip
            have hcan : sp_can S t c f g := ⟨h45, h61, by first | exact (lg_sv1 h11).mp ⟨h70, Int32.not_lt.mpr h81⟩ | exact (lg_sv2 h11).mp ⟨h70, Int32.not_lt.mpr h81⟩⟩
            refine gl_aload_2 (pc := 87) C dL_cost_87 ?_
            refine gl_iload_7 (pc := 88) C dL_cost_88 ?_
            refine gl_iconst (pc := 90) (nI 3) C dL_cost_90 (by decide) ?_
            first | with_reducible refine gl_iaddN (pc := 91) C dL_cost_91 ?_ | refine gl_iadd (pc := 91) C dL_cost_91 ?_
            refine gl_iald (pc := 92) _ C dL_cost_92 rfl rfl (by omega) ?_
            refine gl_top (en_C (w := 3) (by omega) (by omega)) ?_
            refine gl_iload_5 (pc := 93) C dL_cost_93 ?_
            refine gl_callSi (pc := 95) (ctL_far V.1 LA ok_LA _ _ _) C dL_cost_95 gL_cost_L_far rfl hdL_far ⟨rfl, rfl, Nat.le_of_ble_eq_true rfl, Nat.le_of_ble_eq_true rfl⟩ rfl (Nat.le_of_ble_eq_true rfl) rfl ?_
            refine gl_iconst (pc := 98) (nI 2) C dL_cost_98 (by decide) ?_
            refine gl_aload_0 (pc := 99) C dL_cost_99 ?_
            refine gl_aload_3 (pc := 100) C dL_cost_100 ?_
            refine gl_iload_4 (pc := 101) C dL_cost_101 ?_
            refine gl_iconst (pc := 103) (nI 1) C dL_cost_103 (by decide) ?_
            refine gl_iload_5 (pc := 104) C dL_cost_104 ?_
            refine gl_ishl (pc := 106) C dL_cost_106 ?_
            refine gl_iconst (pc := 107) (nI 1) C dL_cost_107 (by decide) ?_
            refine gl_iload_6 (pc := 108) C dL_cost_108 ?_
            refine gl_ishl (pc := 110) C dL_cost_110 ?_
            refine gl_ior (pc := 111) C dL_cost_111 ?_
            refine gl_callSi (pc := 112) (ctL_stops V.1 hn40 hn q (c := c) (by omega) _) C dL_cost_112 gL_cost_L_stops rfl hdL_stops ⟨rfl, rfl, Nat.le_of_ble_eq_true rfl, Nat.le_of_ble_eq_true rfl⟩ rfl (Nat.le_of_ble_eq_true rfl) rfl ?_
            first | with_reducible refine gl_imulN (pc := 115) C dL_cost_115 ?_ | refine gl_imul (pc := 115) C dL_cost_115 ?_
            first | with_reducible refine gl_iaddN (pc := 116) C dL_cost_116 ?_ | refine gl_iadd (pc := 116) C dL_cost_116 ?_
            refine gl_aload_0 (pc := 117) C dL_cost_117 ?_
            refine gl_aload_3 (pc := 118) C dL_cost_118 ?_
            refine gl_iload_4 (pc := 119) C dL_cost_119 ?_
            refine gl_iconst (pc := 121) (nI 1) C dL_cost_121 (by decide) ?_
            refine gl_callSi (pc := 122) (ctL_those V.1 hn40 hn q (c := c) (by omega) (nI 1)) C dL_cost_122 gL_cost_L_those rfl hdL_those ⟨rfl, rfl, Nat.le_of_ble_eq_true rfl, Nat.le_of_ble_eq_true rfl⟩ rfl (Nat.le_of_ble_eq_true rfl) rfl ?_
            first | with_reducible refine gl_iaddN (pc := 125) C dL_cost_125 ?_ | refine gl_iadd (pc := 125) C dL_cost_125 ?_
            refine gl_aload_0 (pc := 126) C dL_cost_126 ?_
            refine gl_aload_3 (pc := 127) C dL_cost_127 ?_
            refine gl_iload_4 (pc := 128) C dL_cost_128 ?_
            refine gl_iconst (pc := 130) (nI 2) C dL_cost_130 (by decide) ?_
            refine gl_callSi (pc := 131) (ctL_those V.1 hn40 hn q (c := c) (by omega) (nI 2)) C dL_cost_131 gL_cost_L_those rfl hdL_those ⟨rfl, rfl, Nat.le_of_ble_eq_true rfl, Nat.le_of_ble_eq_true rfl⟩ rfl (Nat.le_of_ble_eq_true rfl) rfl ?_
            first | with_reducible refine gl_iaddN (pc := 134) C dL_cost_134 ?_ | refine gl_iadd (pc := 134) C dL_cost_134 ?_
            exact gl_iret (pc := 135) C dL_cost_135 (lg_cost_v.trans (if_pos hcan).symm) (rfl)
          · skip
            have hno : ¬ sp_can S t c f g := fun z => by first | exact ((lg_sv1 h11).mpr z.2.2).2 (Int32.not_le.mp h81) | exact ((lg_sv2 h11).mpr z.2.2).2 (Int32.not_le.mp h81)
            refine gl_bipush (pc := 84) (-9) C dL_cost_84 (by decide +kernel) ?_
            exact gl_iret (pc := 86) C dL_cost_86 ((if_neg hno).symm) (rfl)
  · skip
    replace h11 := Int32.not_le.mp h11
    refine gl_iload_5 (pc := 14) C dL_cost_14 ?_
    refine gl_goto (pc := 16) 21 C dL_cost_16 (by decide) ?_
    refine gl_istore_8 (pc := 21) C dL_cost_21 ?_
    refine gl_iload_5 (pc := 23) C dL_cost_23 ?_
    refine gl_iload_6 (pc := 25) C dL_cost_25 ?_
    refine gl_icmp_ge (pc := 27) 35 C dL_cost_27 (by decide) (fun h27 => absurd h27 (Int32.not_le.mpr h11)) (fun h27 => ?_)
    refine gl_iload_6 (pc := 30) C dL_cost_30 ?_
    refine gl_goto (pc := 32) 37 C dL_cost_32 (by decide) ?_
    refine gl_istore_9 (pc := 37) C dL_cost_37 ?_
    refine gl_aload_2 (pc := 39) C dL_cost_39 ?_
    refine gl_iload_7 (pc := 40) C dL_cost_40 ?_
    refine gl_iconst (pc := 42) (nI 4) C dL_cost_42 (by decide) ?_
    first | with_reducible refine gl_iaddN (pc := 43) C dL_cost_43 ?_ | refine gl_iadd (pc := 43) C dL_cost_43 ?_
    refine gl_iald (pc := 44) _ C dL_cost_44 rfl rfl (by omega) ?_
    refine gl_top (en_C (w := 4) (by omega) (by omega)) ?_
    refine gl_ifne (pc := 45) 84 C dL_cost_45 (by decide) (fun h45 => ?_) (fun h45 => ?_)
    · skip
      have hno : ¬ sp_can S t c f g := fun z => h45 z.1
      refine gl_bipush (pc := 84) (-9) C dL_cost_84 (by decide +kernel) ?_
      exact gl_iret (pc := 86) C dL_cost_86 ((if_neg hno).symm) (rfl)
    · skip
      refine gl_iload_4 (pc := 48) C dL_cost_48 ?_
      refine gl_aload_1 (pc := 50) C dL_cost_50 ?_
      refine gl_aload_0 (pc := 51) C dL_cost_51 ?_
      refine gl_iconst (pc := 52) (nI 0) C dL_cost_52 (by decide) ?_
      refine gl_iald (pc := 53) _ C dL_cost_53 rfl rfl (by omega) ?_
      refine gl_top ((en_i (by omega)).trans ht) ?_
      refine gl_bipush (pc := 54) (nI 60) C dL_cost_54 (by decide +kernel) ?_
      refine gl_idiv (pc := 56) C dL_cost_56 (by decide) ?_
      refine gl_top (pk_div (by omega) (by omega) (by omega)) ?_
      refine gl_bipush (pc := 57) (nI 24) C dL_cost_57 (by decide +kernel) ?_
      refine gl_irem (pc := 59) C dL_cost_59 (by decide) ?_
      refine gl_top (pk_rem (by omega) (by omega) (by omega)) ?_
      refine gl_iald (pc := 60) _ C dL_cost_60 rfl rfl (by omega) ?_
      refine gl_top (en_i (by omega)) ?_
      refine gl_icmp_ge (pc := 61) 84 C dL_cost_61 (by decide) (fun h61 => ?_) (fun h61 => ?_)
      · skip
        have hno : ¬ sp_can S t c f g := fun z => z.2.1 h61
        refine gl_bipush (pc := 84) (-9) C dL_cost_84 (by decide +kernel) ?_
        exact gl_iret (pc := 86) C dL_cost_86 ((if_neg hno).symm) (rfl)
      · skip
        refine gl_iload_8 (pc := 64) C dL_cost_64 ?_
        refine gl_aload_2 (pc := 66) C dL_cost_66 ?_
        refine gl_iload_7 (pc := 67) C dL_cost_67 ?_
        refine gl_iald (pc := 69) _ C dL_cost_69 rfl rfl (by omega) ?_
        refine gl_top (en_C (w := 0) (by omega) (by omega)) ?_
        refine gl_icmp_lt (pc := 70) 84 C dL_cost_70 (by decide) (fun h70 => ?_) (fun h70 => ?_)
        · skip
          have hno : ¬ sp_can S t c f g := fun z => by first | exact ((lg_sv1 h11).mpr z.2.2).1 h70 | exact ((lg_sv2 h11).mpr z.2.2).1 h70
          refine gl_bipush (pc := 84) (-9) C dL_cost_84 (by decide +kernel) ?_
          exact gl_iret (pc := 86) C dL_cost_86 ((if_neg hno).symm) (rfl)
        · skip
          refine gl_iload_9 (pc := 73) C dL_cost_73 ?_
          refine gl_aload_2 (pc := 75) C dL_cost_75 ?_
          refine gl_iload_7 (pc := 76) C dL_cost_76 ?_
          refine gl_iconst (pc := 78) (nI 1) C dL_cost_78 (by decide) ?_
          first | with_reducible refine gl_iaddN (pc := 79) C dL_cost_79 ?_ | refine gl_iadd (pc := 79) C dL_cost_79 ?_
          refine gl_iald (pc := 80) _ C dL_cost_80 rfl rfl (by omega) ?_
          refine gl_top (en_C (w := 1) (by omega) (by omega)) ?_
          refine gl_icmp_le (pc := 81) 87 C dL_cost_81 (by decide) (fun h81 => ?_) (fun h81 => ?_)
          · skip
            have hcan : sp_can S t c f g := ⟨h45, h61, by first | exact (lg_sv1 h11).mp ⟨h70, Int32.not_lt.mpr h81⟩ | exact (lg_sv2 h11).mp ⟨h70, Int32.not_lt.mpr h81⟩⟩
            refine gl_aload_2 (pc := 87) C dL_cost_87 ?_
            refine gl_iload_7 (pc := 88) C dL_cost_88 ?_
            refine gl_iconst (pc := 90) (nI 3) C dL_cost_90 (by decide) ?_
            first | with_reducible refine gl_iaddN (pc := 91) C dL_cost_91 ?_ | refine gl_iadd (pc := 91) C dL_cost_91 ?_
            refine gl_iald (pc := 92) _ C dL_cost_92 rfl rfl (by omega) ?_
            refine gl_top (en_C (w := 3) (by omega) (by omega)) ?_
            refine gl_iload_5 (pc := 93) C dL_cost_93 ?_
            refine gl_callSi (pc := 95) (ctL_far V.1 LA ok_LA _ _ _) C dL_cost_95 gL_cost_L_far rfl hdL_far ⟨rfl, rfl, Nat.le_of_ble_eq_true rfl, Nat.le_of_ble_eq_true rfl⟩ rfl (Nat.le_of_ble_eq_true rfl) rfl ?_
            refine gl_iconst (pc := 98) (nI 2) C dL_cost_98 (by decide) ?_
            refine gl_aload_0 (pc := 99) C dL_cost_99 ?_
            refine gl_aload_3 (pc := 100) C dL_cost_100 ?_
            refine gl_iload_4 (pc := 101) C dL_cost_101 ?_
            refine gl_iconst (pc := 103) (nI 1) C dL_cost_103 (by decide) ?_
            refine gl_iload_5 (pc := 104) C dL_cost_104 ?_
            refine gl_ishl (pc := 106) C dL_cost_106 ?_
            refine gl_iconst (pc := 107) (nI 1) C dL_cost_107 (by decide) ?_
            refine gl_iload_6 (pc := 108) C dL_cost_108 ?_
            refine gl_ishl (pc := 110) C dL_cost_110 ?_
            refine gl_ior (pc := 111) C dL_cost_111 ?_
            refine gl_callSi (pc := 112) (ctL_stops V.1 hn40 hn q (c := c) (by omega) _) C dL_cost_112 gL_cost_L_stops rfl hdL_stops ⟨rfl, rfl, Nat.le_of_ble_eq_true rfl, Nat.le_of_ble_eq_true rfl⟩ rfl (Nat.le_of_ble_eq_true rfl) rfl ?_
            first | with_reducible refine gl_imulN (pc := 115) C dL_cost_115 ?_ | refine gl_imul (pc := 115) C dL_cost_115 ?_
            first | with_reducible refine gl_iaddN (pc := 116) C dL_cost_116 ?_ | refine gl_iadd (pc := 116) C dL_cost_116 ?_
            refine gl_aload_0 (pc := 117) C dL_cost_117 ?_
            refine gl_aload_3 (pc := 118) C dL_cost_118 ?_
            refine gl_iload_4 (pc := 119) C dL_cost_119 ?_
            refine gl_iconst (pc := 121) (nI 1) C dL_cost_121 (by decide) ?_
            refine gl_callSi (pc := 122) (ctL_those V.1 hn40 hn q (c := c) (by omega) (nI 1)) C dL_cost_122 gL_cost_L_those rfl hdL_those ⟨rfl, rfl, Nat.le_of_ble_eq_true rfl, Nat.le_of_ble_eq_true rfl⟩ rfl (Nat.le_of_ble_eq_true rfl) rfl ?_
            first | with_reducible refine gl_iaddN (pc := 125) C dL_cost_125 ?_ | refine gl_iadd (pc := 125) C dL_cost_125 ?_
            refine gl_aload_0 (pc := 126) C dL_cost_126 ?_
            refine gl_aload_3 (pc := 127) C dL_cost_127 ?_
            refine gl_iload_4 (pc := 128) C dL_cost_128 ?_
            refine gl_iconst (pc := 130) (nI 2) C dL_cost_130 (by decide) ?_
            refine gl_callSi (pc := 131) (ctL_those V.1 hn40 hn q (c := c) (by omega) (nI 2)) C dL_cost_131 gL_cost_L_those rfl hdL_those ⟨rfl, rfl, Nat.le_of_ble_eq_true rfl, Nat.le_of_ble_eq_true rfl⟩ rfl (Nat.le_of_ble_eq_true rfl) rfl ?_
            first | with_reducible refine gl_iaddN (pc := 134) C dL_cost_134 ?_ | refine gl_iadd (pc := 134) C dL_cost_134 ?_
            exact gl_iret (pc := 135) C dL_cost_135 (lg_cost_v.trans (if_pos hcan).symm) (rfl)
          · skip
            have hno : ¬ sp_can S t c f g := fun z => by first | exact ((lg_sv1 h11).mpr z.2.2).2 (Int32.not_le.mp h81) | exact ((lg_sv2 h11).mpr z.2.2).2 (Int32.not_le.mp h81)
            refine gl_bipush (pc := 84) (-9) C dL_cost_84 (by decide +kernel) ?_
            exact gl_iret (pc := 86) C dL_cost_86 ((if_neg hno).symm) (rfl)
set_option maxRecDepth 100000 in
set_option maxHeartbeats 4000000 in
theorem ctL_which (F : gl_F) {n m t A : Nat} {S : Nat → Int32} (w : sp_W n m t S) (ht31 : t < 1048575) (q : qW S A n) {f g : Int32} (hf : sp_fl f) (hg : sp_fl g) : gl_Ct F LA yL_which wsL_which rmL_which [.ref (gl_r F 0), .ref (gl_r F 1), .ref (gl_r F 2), .ref (gl_r F 3), .int f, .int g] (en S n) (some (.int (sp_best S t f g n m).1)) ((en S n)) := by
  refine gl_met (cc := cL_which) (maxL := 10) (ret := some .int) [some (.ref (gl_r F 0)), some (.ref (gl_r F 1)), some (.ref (gl_r F 2)), some (.ref (gl_r F 3)), some (.int f), some (.int g), none, none, none, none] (plainFor_of_name (by decide)) rfl ok_LA (by simp [Value.category]) (Nat.le_of_ble_eq_true rfl) rfl (fun V hV C => ?_)
  subst hV
  obtain ⟨hn40, hm5, hn, hm, ht, hcar, hcal⟩ := id w
  refine gl_bipush (pc := 0) (-9) C dL_which_0 (by decide +kernel) ?_
  refine gl_istore_6 (pc := 2) C dL_which_2 ?_
  refine gl_sipush (pc := 4) (nI 9999) C dL_which_4 (by decide +kernel) ?_
  refine gl_istore_7 (pc := 7) C dL_which_7 ?_
  refine gl_aload_0 (pc := 9) C dL_which_9 ?_
  refine gl_iconst (pc := 10) (nI 1) C dL_which_10 (by decide) ?_
  refine gl_iald (pc := 11) _ C dL_which_11 rfl rfl (by omega) ?_
  refine gl_top ((en_i (by omega)).trans hm) ?_
  refine gl_iconst (pc := 12) (nI 1) C dL_which_12 (by decide) ?_
  refine gl_isub (pc := 13) C dL_which_13 ?_
  refine gl_istore_8 (pc := 14) C dL_which_14 ?_
  refine gl_loop (pc := 16) (n := m) (fun j => [some (.ref (gl_r V.1 0)), some (.ref (gl_r V.1 1)), some (.ref (gl_r V.1 2)), some (.ref (gl_r V.1 3)), some (.int f), some (.int g), some (.int (lg_wh S t n m f g j).1), some (.int (lg_wh S t n m f g j).2), some (.int (lg_dn m j)), none]) (fun j => (en S n)) (fun j => True) 0 (Nat.zero_le _) (trivial) (gl_le_c (rfl) (gl_le_c (rfl) (gl_le_c (rfl) (gl_le_c (rfl) (gl_le_c (rfl) (gl_le_c (rfl) (gl_le_c (rfl) (gl_le_c (rfl) (gl_le_c (congrArg Value.int lg_dn_0) (gl_le_o (gl_le_n))))))))))) (rfl) (fun hI => ?_) (fun j hj hI ih => ?_)
  · skip
    rw [lg_dn_m]
    refine gl_iload_8 (pc := 16) C dL_which_16 ?_
    refine gl_iflt (pc := 18) 84 C dL_which_18 (by decide) (fun h18 => ?_) (fun h18 => absurd h18 (not_not_intro (by decide)))
    refine gl_iload_6 (pc := 84) C dL_which_84 ?_
    exact gl_iret (pc := 86) C dL_which_86 (lg_wh_ok w hf) (rfl)
  · skip
    rw [lg_dn_lt hj]
    have hcm : m - 1 - j < m := by omega
    refine gl_iload_8 (pc := 16) C dL_which_16 ?_
    refine gl_iflt (pc := 18) 84 C dL_which_18 (by decide) (fun h18 => absurd h18 (nI_pos (by omega))) (fun h18 => ?_)
    refine gl_aload_0 (pc := 21) C dL_which_21 ?_
    refine gl_aload_1 (pc := 22) C dL_which_22 ?_
    refine gl_aload_2 (pc := 23) C dL_which_23 ?_
    refine gl_aload_3 (pc := 24) C dL_which_24 ?_
    refine gl_iload_8 (pc := 25) C dL_which_25 ?_
    refine gl_iload_4 (pc := 27) C dL_which_27 ?_
    refine gl_iload_5 (pc := 29) C dL_which_29 ?_
    refine gl_callSi (pc := 31) (ctL_cost V.1 w ht31 q hcm hf hg) C dL_which_31 gL_which_L_cost rfl hdL_cost ⟨rfl, rfl, Nat.le_of_ble_eq_true rfl, Nat.le_of_ble_eq_true rfl⟩ rfl (Nat.le_of_ble_eq_true rfl) rfl ?_
    refine gl_istore_9 (pc := 34) C dL_which_34 ?_
    refine gl_iload_9 (pc := 36) C dL_which_36 ?_
    refine gl_iflt (pc := 38) 53 C dL_which_38 (by decide) (fun h38 => ?_) (fun h38 => ?_)
    · skip
      refine gl_iload_6 (pc := 53) C dL_which_53 ?_
      refine gl_istore_6 (pc := 55) C dL_which_55 ?_
      refine gl_iload_9 (pc := 57) C dL_which_57 ?_
      refine gl_iflt (pc := 59) 74 C dL_which_59 (by decide) (fun h59 => ?_) (fun h59 => absurd h59 (not_not_intro h38))
      refine gl_iload_7 (pc := 74) C dL_which_74 ?_
      refine gl_istore_7 (pc := 76) C dL_which_76 ?_
      refine gl_iinc_8 (pc := 78) (v := lg_dn m (j + 1)) C dL_which_78 (lg_dn_s hj) ?_
      refine gl_goto (pc := 81) 16 C dL_which_81 (by decide) ?_
      exact gl_on (ih (trivial)) (gl_le_c (rfl) (gl_le_c (rfl) (gl_le_c (rfl) (gl_le_c (rfl) (gl_le_c (rfl) (gl_le_c (rfl) (gl_le_c (congrArg Value.int (by simp only [lg_wh]; rw [if_neg (fun z => z.1 h38)])) (gl_le_c (congrArg Value.int (by simp only [lg_wh]; rw [if_neg (fun z => z.1 h38)])) (gl_le_c (rfl) (gl_le_o (gl_le_n))))))))))) (rfl)
    · skip
      refine gl_iload_9 (pc := 41) C dL_which_41 ?_
      refine gl_iload_7 (pc := 43) C dL_which_43 ?_
      refine gl_icmp_gt (pc := 45) 53 C dL_which_45 (by decide) (fun h45 => ?_) (fun h45 => ?_)
      · skip
        refine gl_iload_6 (pc := 53) C dL_which_53 ?_
        refine gl_istore_6 (pc := 55) C dL_which_55 ?_
        refine gl_iload_9 (pc := 57) C dL_which_57 ?_
        refine gl_iflt (pc := 59) 74 C dL_which_59 (by decide) (fun h59 => absurd h59 (h38)) (fun h59 => ?_)
        refine gl_iload_9 (pc := 62) C dL_which_62 ?_
        refine gl_iload_7 (pc := 64) C dL_which_64 ?_
        refine gl_icmp_gt (pc := 66) 74 C dL_which_66 (by decide) (fun h66 => ?_) (fun h66 => absurd h66 (not_not_intro h45))
        refine gl_iload_7 (pc := 74) C dL_which_74 ?_
        refine gl_istore_7 (pc := 76) C dL_which_76 ?_
        refine gl_iinc_8 (pc := 78) (v := lg_dn m (j + 1)) C dL_which_78 (lg_dn_s hj) ?_
        refine gl_goto (pc := 81) 16 C dL_which_81 (by decide) ?_
        exact gl_on (ih (trivial)) (gl_le_c (rfl) (gl_le_c (rfl) (gl_le_c (rfl) (gl_le_c (rfl) (gl_le_c (rfl) (gl_le_c (rfl) (gl_le_c (congrArg Value.int (by simp only [lg_wh]; rw [if_neg (fun z => z.2 h45)])) (gl_le_c (congrArg Value.int (by simp only [lg_wh]; rw [if_neg (fun z => z.2 h45)])) (gl_le_c (rfl) (gl_le_o (gl_le_n))))))))))) (rfl)
      · skip
        refine gl_iload_8 (pc := 48) C dL_which_48 ?_
        refine gl_goto (pc := 50) 55 C dL_which_50 (by decide) ?_
        refine gl_istore_6 (pc := 55) C dL_which_55 ?_
        refine gl_iload_9 (pc := 57) C dL_which_57 ?_
        refine gl_iflt (pc := 59) 74 C dL_which_59 (by decide) (fun h59 => absurd h59 (h38)) (fun h59 => ?_)
        refine gl_iload_9 (pc := 62) C dL_which_62 ?_
        refine gl_iload_7 (pc := 64) C dL_which_64 ?_
        refine gl_icmp_gt (pc := 66) 74 C dL_which_66 (by decide) (fun h66 => absurd h66 (h45)) (fun h66 => ?_)
        refine gl_iload_9 (pc := 69) C dL_which_69 ?_
        refine gl_goto (pc := 71) 76 C dL_which_71 (by decide) ?_
        refine gl_istore_7 (pc := 76) C dL_which_76 ?_
        refine gl_iinc_8 (pc := 78) (v := lg_dn m (j + 1)) C dL_which_78 (lg_dn_s hj) ?_
        refine gl_goto (pc := 81) 16 C dL_which_81 (by decide) ?_
        exact gl_on (ih (trivial)) (gl_le_c (rfl) (gl_le_c (rfl) (gl_le_c (rfl) (gl_le_c (rfl) (gl_le_c (rfl) (gl_le_c (rfl) (gl_le_c (congrArg Value.int (by simp only [lg_wh]; rw [if_pos ⟨h38, h45⟩])) (gl_le_c (congrArg Value.int (by simp only [lg_wh]; rw [if_pos ⟨h38, h45⟩])) (gl_le_c (rfl) (gl_le_o (gl_le_n))))))))))) (rfl)
