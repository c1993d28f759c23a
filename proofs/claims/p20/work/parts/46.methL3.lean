set_option maxRecDepth 100000 in
set_option maxHeartbeats 4000000 in
theorem ctL_gives (F : gl_F) {n m t A : Nat} {S : Nat → Int32} (w : sp_W n m t S) (ht31 : t < 1048575) (q : qW S A n) {k : Nat} (hk : k < n) (h0 : S (iK k 2) = 0) : gl_Ct F LA yL_gives wsL_gives rmL_gives [.ref (gl_r F 0), .ref (gl_r F 1), .ref (gl_r F 2), .ref (gl_r F 3), .int (nI k)] (en S n) (none) ((en (sp_give S k (sp_best S t (S (iK k 0)) (S (iK k 1)) n m).1) n)) := by
  refine gl_met (cc := cL_gives) (maxL := 6) (ret := none) [some (.ref (gl_r F 0)), some (.ref (gl_r F 1)), some (.ref (gl_r F 2)), some (.ref (gl_r F 3)), some (.int (nI k)), none] (plainFor_of_name (by decide)) rfl ok_LA (by simp [Value.category]) (Nat.le_of_ble_eq_true rfl) rfl (fun V hV C => ?_)
  subst hV
  obtain ⟨hn40, hm5, hn, hm, ht, hcar, hcal⟩ := id w
  have qk := q.2 k hk
  refine gl_aload_0 (pc := 0) C dL_gives_0 ?_
  refine gl_aload_1 (pc := 1) C dL_gives_1 ?_
  refine gl_aload_2 (pc := 2) C dL_gives_2 ?_
  refine gl_aload_3 (pc := 3) C dL_gives_3 ?_
  refine gl_aload_3 (pc := 4) C dL_gives_4 ?_
  refine gl_iload_4 (pc := 5) C dL_gives_5 ?_
  refine gl_lald (pc := 7) _ C dL_gives_7 rfl rfl (by omega) ?_
  refine gl_topl (en_c (by omega) hk) ?_
  refine gl_callSi (pc := 8) (ctL_floor V.1 LA ok_LA _ q.1 qk) C dL_gives_8 gL_gives_L_floor rfl hdL_floor ⟨rfl, rfl, Nat.le_of_ble_eq_true rfl, Nat.le_of_ble_eq_true rfl⟩ rfl (Nat.le_of_ble_eq_true rfl) rfl ?_
  refine gl_aload_3 (pc := 11) C dL_gives_11 ?_
  refine gl_iload_4 (pc := 12) C dL_gives_12 ?_
  refine gl_lald (pc := 14) _ C dL_gives_14 rfl rfl (by omega) ?_
  refine gl_topl (en_c (by omega) hk) ?_
  refine gl_callSi (pc := 15) (ctL_goal V.1 LA ok_LA _ q.1 qk) C dL_gives_15 gL_gives_L_goal rfl hdL_goal ⟨rfl, rfl, Nat.le_of_ble_eq_true rfl, Nat.le_of_ble_eq_true rfl⟩ rfl (Nat.le_of_ble_eq_true rfl) rfl ?_
  refine gl_callSi (pc := 18) (ctL_which V.1 w ht31 q (hcal k hk).1 (hcal k hk).2.1) C dL_gives_18 gL_gives_L_which rfl hdL_which ⟨rfl, rfl, Nat.le_of_ble_eq_true rfl, Nat.le_of_ble_eq_true rfl⟩ rfl (Nat.le_of_ble_eq_true rfl) rfl ?_
  refine gl_istore_5 (pc := 21) C dL_gives_21 ?_
  refine gl_iload_5 (pc := 23) C dL_gives_23 ?_
  refine gl_iflt (pc := 25) 51 C dL_gives_25 (by decide) (fun h25 => ?_) (fun h25 => ?_)
  · skip
    have e9 : (sp_best S t (S (iK k 0)) (S (iK k 1)) n m).1 = -9 := (sp_best_ok m).resolve_right (fun ⟨c, hc, e⟩ => by rw [e] at h25; exact nI_pos (by omega) h25)
    exact gl_vret (pc := 51) C dL_gives_51 (by unfold sp_give; rw [if_pos e9])
  · skip
    obtain ⟨c, hcm, e⟩ := (sp_best_ok (M := S) (t := t) (f := S (iK k 0)) (g := S (iK k 1)) (n := n) m).resolve_left (fun z => h25 (by rw [z]; decide))
    rw [e]
    refine gl_aload_3 (pc := 28) C dL_gives_28 ?_
    refine gl_iload_4 (pc := 29) C dL_gives_29 ?_
    refine gl_dup2 (pc := 31) C dL_gives_31 ?_
    refine gl_lald (pc := 32) _ C dL_gives_32 rfl rfl (by omega) ?_
    refine gl_topl (en_c (by omega) hk) ?_
    refine gl_ldc2 (pc := 33) (256) C dL_gives_33 (by decide +kernel) ?_
    refine gl_iload_5 (pc := 36) C dL_gives_36 ?_
    refine gl_i2l (pc := 38) C dL_gives_38 ?_
    refine gl_lconst (pc := 39) (1) C dL_gives_39 (by decide) ?_
    refine gl_ladd (pc := 40) C dL_gives_40 ?_
    refine gl_bipush (pc := 41) (nI 10) C dL_gives_41 (by decide +kernel) ?_
    refine gl_lshl (pc := 43) C dL_gives_43 ?_
    refine gl_ladd (pc := 44) C dL_gives_44 ?_
    refine gl_ldc2 (pc := 45) (8192) C dL_gives_45 (by decide +kernel) ?_
    refine gl_ladd (pc := 48) C dL_gives_48 ?_
    refine gl_ladd (pc := 49) C dL_gives_49 ?_
    refine gl_last (pc := 50) _ C dL_gives_50 rfl rfl (by omega) ?_
    refine gl_mem (lg_give_mem q.1 hk hn40 qk h0 (by omega)) ?_
    exact gl_vret (pc := 51) C dL_gives_51 (rfl)
set_option maxRecDepth 100000 in
set_option maxHeartbeats 4000000 in
theorem ctL_aim (F : gl_F) {n m t A : Nat} {S : Nat → Int32} (w : sp_W n m t S) (ht31 : t < 1048575) (q : qW S A n) {c : Nat} (hc : c < m) : gl_Ct F LA yL_aim wsL_aim rmL_aim [.ref (gl_r F 0), .ref (gl_r F 2), .ref (gl_r F 3), .int (nI c)] (en S n) (some (.int (sp_aim S (nI c) (S (iC c 3)) n))) ((en S n)) := by
  refine gl_met (cc := cL_aim) (maxL := 9) (ret := some .int) [some (.ref (gl_r F 0)), some (.ref (gl_r F 2)), some (.ref (gl_r F 3)), some (.int (nI c)), none, none, none, none, none] (plainFor_of_name (by decide)) rfl ok_LA (by simp [Value.category]) (Nat.le_of_ble_eq_true rfl) rfl (fun V hV C => ?_)
  subst hV
  obtain ⟨hn40, hm5, hn, hm, ht, hcar, hcal⟩ := id w
  obtain ⟨o, ho, eo⟩ := (hcar c hc).2.2.1
  rw [eo]
  refine gl_aload_1 (pc := 0) C dL_aim_0 ?_
  refine gl_bipush (pc := 1) (nI 6) C dL_aim_1 (by decide +kernel) ?_
  refine gl_iload_3 (pc := 3) C dL_aim_3 ?_
  first | with_reducible refine gl_imulN (pc := 4) C dL_aim_4 ?_ | refine gl_imul (pc := 4) C dL_aim_4 ?_
  refine gl_iconst (pc := 5) (nI 3) C dL_aim_5 (by decide) ?_
  first | with_reducible refine gl_iaddN (pc := 6) C dL_aim_6 ?_ | refine gl_iadd (pc := 6) C dL_aim_6 ?_
  refine gl_iald (pc := 7) _ C dL_aim_7 rfl rfl (by omega) ?_
  refine gl_top (en_C (w := 3) (by omega) (by omega)) ?_
  refine gl_top eo ?_
  refine gl_istore_4 (pc := 8) C dL_aim_8 ?_
  refine gl_iconst (pc := 10) (nI 0) C dL_aim_10 (by decide) ?_
  refine gl_istore_5 (pc := 11) C dL_aim_11 ?_
  refine gl_loop (pc := 13) (n := 16) (fun j => [some (.ref (gl_r V.1 0)), some (.ref (gl_r V.1 2)), some (.ref (gl_r V.1 3)), some (.int (nI c)), some (.int (nI o)), some (.int (nI j)), none, none, none]) (fun j => (en S n)) (fun j => lg_cl S (nI c) n o j) 0 (Nat.zero_le _) (fun k _ _ x _ _ => Nat.zero_le _) (gl_le_c (rfl) (gl_le_c (rfl) (gl_le_c (rfl) (gl_le_c (rfl) (gl_le_c (rfl) (gl_le_c (rfl) (gl_le_o (gl_le_o (gl_le_o (gl_le_n)))))))))) (rfl) (fun hI => ?_) (fun j hj hI ih => ?_)
  · skip
    have hno := lg_cl_no w ho hI
    refine gl_iload_5 (pc := 13) C dL_aim_13 ?_
    refine gl_bipush (pc := 15) (nI 16) C dL_aim_15 (by decide +kernel) ?_
    refine gl_icmp_ge (pc := 17) 115 C dL_aim_17 (by decide) (fun h17 => ?_) (fun h17 => absurd h17 (gl_xge))
    refine gl_iconst (pc := 115) (nI 0) C dL_aim_115 (by decide) ?_
    refine gl_istore_5 (pc := 116) C dL_aim_116 ?_
    refine gl_loop (pc := 118) (n := n) (fun k => [some (.ref (gl_r V.1 0)), some (.ref (gl_r V.1 2)), some (.ref (gl_r V.1 3)), some (.int (nI c)), some (.int (nI o)), some (.int (nI k)), none, none, none]) (fun k => (en S n)) (fun k => lg_cw S (nI c) k) 0 (Nat.zero_le _) (fun k h => absurd h (by omega)) (gl_le_c (rfl) (gl_le_c (rfl) (gl_le_c (rfl) (gl_le_c (rfl) (gl_le_c (rfl) (gl_le_c (rfl) (gl_le_o (gl_le_o (gl_le_o (gl_le_n)))))))))) (rfl) (fun hI => ?_) (fun k hk hI ih => ?_)
    · skip
      refine gl_iload_5 (pc := 118) C dL_aim_118 ?_
      refine gl_aload_0 (pc := 120) C dL_aim_120 ?_
      refine gl_iconst (pc := 121) (nI 2) C dL_aim_121 (by decide) ?_
      refine gl_iald (pc := 122) _ C dL_aim_122 rfl rfl (by omega) ?_
      refine gl_top ((en_i (by omega)).trans hn) ?_
      refine gl_icmp_ge (pc := 123) 162 C dL_aim_123 (by decide) (fun h123 => ?_) (fun h123 => absurd h123 (gl_xge))
      refine gl_bipush (pc := 162) (-9) C dL_aim_162 (by decide +kernel) ?_
      exact gl_iret (pc := 164) C dL_aim_164 (lg_aim_n hno hI) (rfl)
    · skip
      have qk := q.2 k hk
      refine gl_iload_5 (pc := 118) C dL_aim_118 ?_
      refine gl_aload_0 (pc := 120) C dL_aim_120 ?_
      refine gl_iconst (pc := 121) (nI 2) C dL_aim_121 (by decide) ?_
      refine gl_iald (pc := 122) _ C dL_aim_122 rfl rfl (by omega) ?_
      refine gl_top ((en_i (by omega)).trans hn) ?_
      refine gl_icmp_ge (pc := 123) 162 C dL_aim_123 (by decide) (fun h123 => absurd h123 (nI_ge hk (by omega))) (fun h123 => ?_)
      refine gl_aload_2 (pc := 126) C dL_aim_126 ?_
      refine gl_iload_5 (pc := 127) C dL_aim_127 ?_
      refine gl_lald (pc := 129) _ C dL_aim_129 rfl rfl (by omega) ?_
      refine gl_topl (en_c (by omega) hk) ?_
      refine gl_callSi (pc := 130) (ctL_is V.1 LA ok_LA _ q.1 qk) C dL_aim_130 gL_aim_L_is rfl hdL_is ⟨rfl, rfl, Nat.le_of_ble_eq_true rfl, Nat.le_of_ble_eq_true rfl⟩ rfl (Nat.le_of_ble_eq_true rfl) rfl ?_
      refine gl_iconst (pc := 133) (nI 1) C dL_aim_133 (by decide) ?_
      refine gl_icmp_ne (pc := 134) 156 C dL_aim_134 (by decide) (fun h134 => ?_) (fun h134 => ?_)
      · skip
        first | with_reducible refine gl_iincN_5 (pc := 156) gl_i1 C dL_aim_156 ?_ | refine gl_iinc_5 (pc := 156) C dL_aim_156 (gl_inc1 _) ?_
        refine gl_goto (pc := 159) 118 C dL_aim_159 (by decide) ?_
        exact gl_on (ih (lg_cw_s hI (by first | exact fun z => h134 z.1 | exact fun z => h145' z.2))) (gl_le_c (rfl) (gl_le_c (rfl) (gl_le_c (rfl) (gl_le_c (rfl) (gl_le_c (rfl) (gl_le_c (rfl) (gl_le_o (gl_le_o (gl_le_o (gl_le_n)))))))))) (rfl)
      · skip
        refine gl_aload_2 (pc := 137) C dL_aim_137 ?_
        refine gl_iload_5 (pc := 138) C dL_aim_138 ?_
        refine gl_lald (pc := 140) _ C dL_aim_140 rfl rfl (by omega) ?_
        refine gl_topl (en_c (by omega) hk) ?_
        refine gl_callSi (pc := 141) (ctL_by V.1 LA ok_LA _ q.1 qk) C dL_aim_141 gL_aim_L_by rfl hdL_by ⟨rfl, rfl, Nat.le_of_ble_eq_true rfl, Nat.le_of_ble_eq_true rfl⟩ rfl (Nat.le_of_ble_eq_true rfl) rfl ?_
        refine gl_iload_3 (pc := 144) C dL_aim_144 ?_
        refine gl_icmp_ne (pc := 145) 156 C dL_aim_145 (by decide) (fun h145 => ?_) (fun h145 => ?_)
        · skip
          have h145' : ¬ S (iK k 3) = nI c := fun z => h145 ((qby_c qk (by omega)).mpr z)
          first | with_reducible refine gl_iincN_5 (pc := 156) gl_i1 C dL_aim_156 ?_ | refine gl_iinc_5 (pc := 156) C dL_aim_156 (gl_inc1 _) ?_
          refine gl_goto (pc := 159) 118 C dL_aim_159 (by decide) ?_
          exact gl_on (ih (lg_cw_s hI (by first | exact fun z => h134 z.1 | exact fun z => h145' z.2))) (gl_le_c (rfl) (gl_le_c (rfl) (gl_le_c (rfl) (gl_le_c (rfl) (gl_le_c (rfl) (gl_le_c (rfl) (gl_le_o (gl_le_o (gl_le_o (gl_le_n)))))))))) (rfl)
        · skip
          replace h145 := (qby_c qk (by omega)).mp h145
          refine gl_aload_2 (pc := 148) C dL_aim_148 ?_
          refine gl_iload_5 (pc := 149) C dL_aim_149 ?_
          refine gl_lald (pc := 151) _ C dL_aim_151 rfl rfl (by omega) ?_
          refine gl_topl (en_c (by omega) hk) ?_
          refine gl_callSi (pc := 152) (ctL_floor V.1 LA ok_LA _ q.1 qk) C dL_aim_152 gL_aim_L_floor rfl hdL_floor ⟨rfl, rfl, Nat.le_of_ble_eq_true rfl, Nat.le_of_ble_eq_true rfl⟩ rfl (Nat.le_of_ble_eq_true rfl) rfl ?_
          exact gl_iret (pc := 155) C dL_aim_155 (lg_aim_w w hno hk ⟨h134, h145⟩ hI) (rfl)
  · skip
    have hI13 := hI
    refine gl_iload_5 (pc := 13) C dL_aim_13 ?_
    refine gl_bipush (pc := 15) (nI 16) C dL_aim_15 (by decide +kernel) ?_
    refine gl_icmp_ge (pc := 17) 115 C dL_aim_17 (by decide) (fun h17 => absurd h17 (nI_ge hj (by omega))) (fun h17 => ?_)
    refine gl_iconst (pc := 20) (nI 0) C dL_aim_20 (by decide) ?_
    refine gl_istore_6 (pc := 21) C dL_aim_21 ?_
    refine gl_loop (pc := 23) (n := 2) (fun i => [some (.ref (gl_r V.1 0)), some (.ref (gl_r V.1 2)), some (.ref (gl_r V.1 3)), some (.int (nI c)), some (.int (nI o)), some (.int (nI j)), some (.int (nI i)), none, none]) (fun i => (en S n)) (fun i => lg_ci S (nI c) n o j i) 0 (Nat.zero_le _) (fun k _ _ i h => absurd h (by omega)) (gl_le_c (rfl) (gl_le_c (rfl) (gl_le_c (rfl) (gl_le_c (rfl) (gl_le_c (rfl) (gl_le_c (rfl) (gl_le_c (rfl) (gl_le_o (gl_le_o (gl_le_n)))))))))) (rfl) (fun hI => ?_) (fun i hi hI ih => ?_)
    · skip
      refine gl_iload_6 (pc := 23) C dL_aim_23 ?_
      refine gl_iconst (pc := 25) (nI 2) C dL_aim_25 (by decide) ?_
      refine gl_icmp_ge (pc := 26) 109 C dL_aim_26 (by decide) (fun h26 => ?_) (fun h26 => absurd h26 (gl_xge))
      first | with_reducible refine gl_iincN_5 (pc := 109) gl_i1 C dL_aim_109 ?_ | refine gl_iinc_5 (pc := 109) C dL_aim_109 (gl_inc1 _) ?_
      refine gl_goto (pc := 112) 13 C dL_aim_112 (by decide) ?_
      exact gl_on (ih (lg_cl_s hI13 hI)) (gl_le_c (rfl) (gl_le_c (rfl) (gl_le_c (rfl) (gl_le_c (rfl) (gl_le_c (rfl) (gl_le_c (rfl) (gl_le_o (gl_le_o (gl_le_o (gl_le_n)))))))))) (rfl)
    · skip
      have hI23 := hI
      refine gl_iload_6 (pc := 23) C dL_aim_23 ?_
      refine gl_iconst (pc := 25) (nI 2) C dL_aim_25 (by decide) ?_
      refine gl_icmp_ge (pc := 26) 109 C dL_aim_26 (by decide) (fun h26 => absurd h26 (nI_ge hi (by omega))) (fun h26 => ?_)
      refine gl_iload_6 (pc := 29) C dL_aim_29 ?_
      refine gl_ifne (pc := 31) 42 C dL_aim_31 (by decide) (fun h31 => ?_) (fun h31 => ?_)
      · skip
        refine gl_iload_4 (pc := 42) C dL_aim_42 ?_
        refine gl_iload_5 (pc := 44) C dL_aim_44 ?_
        first | with_reducible refine gl_iaddN (pc := 46) C dL_aim_46 ?_ | refine gl_iadd (pc := 46) C dL_aim_46 ?_
        refine gl_istore_7 (pc := 47) C dL_aim_47 ?_
        refine gl_iconst (pc := 49) (nI 0) C dL_aim_49 (by decide) ?_
        refine gl_istore_8 (pc := 50) C dL_aim_50 ?_
        refine gl_loop (pc := 52) (n := n) (fun k => [some (.ref (gl_r V.1 0)), some (.ref (gl_r V.1 2)), some (.ref (gl_r V.1 3)), some (.int (nI c)), some (.int (nI o)), some (.int (nI j)), some (.int (nI i)), some (.int (lg_f (nI o) j i)), some (.int (nI k))]) (fun k => (en S n)) (fun k => lg_ck S (nI c) k (lg_f (nI o) j i)) 0 (Nat.zero_le _) (fun k h => absurd h (by omega)) (gl_le_c (rfl) (gl_le_c (rfl) (gl_le_c (rfl) (gl_le_c (rfl) (gl_le_c (rfl) (gl_le_c (rfl) (gl_le_c (rfl) (gl_le_c (congrArg Value.int ((nI_add o j).symm.trans (lg_f1 h31))) (gl_le_c (rfl) (gl_le_n)))))))))) (rfl) (fun hI => ?_) (fun k hk hI ih => ?_)
        · skip
          refine gl_iload_8 (pc := 52) C dL_aim_52 ?_
          refine gl_aload_0 (pc := 54) C dL_aim_54 ?_
          refine gl_iconst (pc := 55) (nI 2) C dL_aim_55 (by decide) ?_
          refine gl_iald (pc := 56) _ C dL_aim_56 rfl rfl (by omega) ?_
          refine gl_top ((en_i (by omega)).trans hn) ?_
          refine gl_icmp_ge (pc := 57) 103 C dL_aim_57 (by decide) (fun h57 => ?_) (fun h57 => absurd h57 (gl_xge))
          first | with_reducible refine gl_iincN_6 (pc := 103) gl_i1 C dL_aim_103 ?_ | refine gl_iinc_6 (pc := 103) C dL_aim_103 (gl_inc1 _) ?_
          refine gl_goto (pc := 106) 23 C dL_aim_106 (by decide) ?_
          exact gl_on (ih (lg_ci_s hI23 hI)) (gl_le_c (rfl) (gl_le_c (rfl) (gl_le_c (rfl) (gl_le_c (rfl) (gl_le_c (rfl) (gl_le_c (rfl) (gl_le_c (rfl) (gl_le_o (gl_le_o (gl_le_n)))))))))) (rfl)
        · skip
          have qk := q.2 k hk
          refine gl_iload_8 (pc := 52) C dL_aim_52 ?_
          refine gl_aload_0 (pc := 54) C dL_aim_54 ?_
          refine gl_iconst (pc := 55) (nI 2) C dL_aim_55 (by decide) ?_
          refine gl_iald (pc := 56) _ C dL_aim_56 rfl rfl (by omega) ?_
          refine gl_top ((en_i (by omega)).trans hn) ?_
          refine gl_icmp_ge (pc := 57) 103 C dL_aim_57 (by decide) (fun h57 => absurd h57 (nI_ge hk (by omega))) (fun h57 => ?_)
          refine gl_aload_2 (pc := 60) C dL_aim_60 ?_
          refine gl_iload_8 (pc := 61) C dL_aim_61 ?_
          refine gl_lald (pc := 63) _ C dL_aim_63 rfl rfl (by omega) ?_
          refine gl_topl (en_c (by omega) hk) ?_
          refine gl_callSi (pc := 64) (ctL_is V.1 LA ok_LA _ q.1 qk) C dL_aim_64 gL_aim_L_is rfl hdL_is ⟨rfl, rfl, Nat.le_of_ble_eq_true rfl, Nat.le_of_ble_eq_true rfl⟩ rfl (Nat.le_of_ble_eq_true rfl) rfl ?_
          refine gl_iconst (pc := 67) (nI 2) C dL_aim_67 (by decide) ?_
          refine gl_icmp_ne (pc := 68) 97 C dL_aim_68 (by decide) (fun h68 => ?_) (fun h68 => ?_)
          · skip
            first | with_reducible refine gl_iincN_8 (pc := 97) gl_i1 C dL_aim_97 ?_ | refine gl_iinc_8 (pc := 97) C dL_aim_97 (gl_inc1 _) ?_
            refine gl_goto (pc := 100) 52 C dL_aim_100 (by decide) ?_
            exact gl_on (ih (lg_ck_s hI (by first | exact fun z => h68 z.1.1 | exact fun z => h78' z.1.2 | exact fun z => h91 z.2))) (gl_le_c (rfl) (gl_le_c (rfl) (gl_le_c (rfl) (gl_le_c (rfl) (gl_le_c (rfl) (gl_le_c (rfl) (gl_le_c (rfl) (gl_le_c (rfl) (gl_le_c (rfl) (gl_le_n)))))))))) (rfl)
          · skip
            refine gl_aload_2 (pc := 71) C dL_aim_71 ?_
            refine gl_iload_8 (pc := 72) C dL_aim_72 ?_
            refine gl_lald (pc := 74) _ C dL_aim_74 rfl rfl (by omega) ?_
            refine gl_topl (en_c (by omega) hk) ?_
            refine gl_callSi (pc := 75) (ctL_by V.1 LA ok_LA _ q.1 qk) C dL_aim_75 gL_aim_L_by rfl hdL_by ⟨rfl, rfl, Nat.le_of_ble_eq_true rfl, Nat.le_of_ble_eq_true rfl⟩ rfl (Nat.le_of_ble_eq_true rfl) rfl ?_
            refine gl_iload_3 (pc := 78) C dL_aim_78 ?_
            refine gl_icmp_ne (pc := 79) 97 C dL_aim_79 (by decide) (fun h79 => ?_) (fun h79 => ?_)
            · skip
              have h78' : ¬ S (iK k 3) = nI c := fun z => h79 ((qby_c qk (by omega)).mpr z)
              first | with_reducible refine gl_iincN_8 (pc := 97) gl_i1 C dL_aim_97 ?_ | refine gl_iinc_8 (pc := 97) C dL_aim_97 (gl_inc1 _) ?_
              refine gl_goto (pc := 100) 52 C dL_aim_100 (by decide) ?_
              exact gl_on (ih (lg_ck_s hI (by first | exact fun z => h68 z.1.1 | exact fun z => h78' z.1.2 | exact fun z => h91 z.2))) (gl_le_c (rfl) (gl_le_c (rfl) (gl_le_c (rfl) (gl_le_c (rfl) (gl_le_c (rfl) (gl_le_c (rfl) (gl_le_c (rfl) (gl_le_c (rfl) (gl_le_c (rfl) (gl_le_n)))))))))) (rfl)
            · skip
              replace h79 := (qby_c qk (by omega)).mp h79
              refine gl_aload_2 (pc := 82) C dL_aim_82 ?_
              refine gl_iload_8 (pc := 83) C dL_aim_83 ?_
              refine gl_lald (pc := 85) _ C dL_aim_85 rfl rfl (by omega) ?_
              refine gl_topl (en_c (by omega) hk) ?_
              refine gl_callSi (pc := 86) (ctL_goal V.1 LA ok_LA _ q.1 qk) C dL_aim_86 gL_aim_L_goal rfl hdL_goal ⟨rfl, rfl, Nat.le_of_ble_eq_true rfl, Nat.le_of_ble_eq_true rfl⟩ rfl (Nat.le_of_ble_eq_true rfl) rfl ?_
              refine gl_iload_7 (pc := 89) C dL_aim_89 ?_
              refine gl_icmp_ne (pc := 91) 97 C dL_aim_91 (by decide) (fun h91 => ?_) (fun h91 => ?_)
              · skip
                first | with_reducible refine gl_iincN_8 (pc := 97) gl_i1 C dL_aim_97 ?_ | refine gl_iinc_8 (pc := 97) C dL_aim_97 (gl_inc1 _) ?_
                refine gl_goto (pc := 100) 52 C dL_aim_100 (by decide) ?_
                exact gl_on (ih (lg_ck_s hI (by first | exact fun z => h68 z.1.1 | exact fun z => h78' z.1.2 | exact fun z => h91 z.2))) (gl_le_c (rfl) (gl_le_c (rfl) (gl_le_c (rfl) (gl_le_c (rfl) (gl_le_c (rfl) (gl_le_c (rfl) (gl_le_c (rfl) (gl_le_c (rfl) (gl_le_c (rfl) (gl_le_n)))))))))) (rfl)
              · skip
                refine gl_iload_7 (pc := 94) C dL_aim_94 ?_
                exact gl_iret (pc := 96) C dL_aim_96 (lg_aim_hit w ho hj hi hk hI13 hI23 ⟨h68, h79⟩ h91) (rfl)
      · skip
        refine gl_iload_4 (pc := 34) C dL_aim_34 ?_
        refine gl_iload_5 (pc := 36) C dL_aim_36 ?_
        refine gl_isub (pc := 38) C dL_aim_38 ?_
        refine gl_goto (pc := 39) 47 C dL_aim_39 (by decide) ?_
        refine gl_istore_7 (pc := 47) C dL_aim_47 ?_
        refine gl_iconst (pc := 49) (nI 0) C dL_aim_49 (by decide) ?_
        refine gl_istore_8 (pc := 50) C dL_aim_50 ?_
        refine gl_loop (pc := 52) (n := n) (fun k => [some (.ref (gl_r V.1 0)), some (.ref (gl_r V.1 2)), some (.ref (gl_r V.1 3)), some (.int (nI c)), some (.int (nI o)), some (.int (nI j)), some (.int (nI i)), some (.int (lg_f (nI o) j i)), some (.int (nI k))]) (fun k => (en S n)) (fun k => lg_ck S (nI c) k (lg_f (nI o) j i)) 0 (Nat.zero_le _) (fun k h => absurd h (by omega)) (gl_le_c (rfl) (gl_le_c (rfl) (gl_le_c (rfl) (gl_le_c (rfl) (gl_le_c (rfl) (gl_le_c (rfl) (gl_le_c (rfl) (gl_le_c (congrArg Value.int (lg_f0 hi h31)) (gl_le_c (rfl) (gl_le_n)))))))))) (rfl) (fun hI => ?_) (fun k hk hI ih => ?_)
        · skip
          refine gl_iload_8 (pc := 52) C dL_aim_52 ?_
          refine gl_aload_0 (pc := 54) C dL_aim_54 ?_
          refine gl_iconst (pc := 55) (nI 2) C dL_aim_55 (by decide) ?_
          refine gl_iald (pc := 56) _ C dL_aim_56 rfl rfl (by omega) ?_
          refine gl_top ((en_i (by omega)).trans hn) ?_
          refine gl_icmp_ge (pc := 57) 103 C dL_aim_57 (by decide) (fun h57 => ?_) (fun h57 => absurd h57 (gl_xge))
          first | with_reducible refine gl_iincN_6 (pc := 103) gl_i1 C dL_aim_103 ?_ | refine gl_iinc_6 (pc := 103) C dL_aim_103 (gl_inc1 _) ?_
          refine gl_goto (pc := 106) 23 C dL_aim_106 (by decide) ?_
          exact gl_on (ih (lg_ci_s hI23 hI)) (gl_le_c (rfl) (gl_le_c (rfl) (gl_le_c (rfl) (gl_le_c (rfl) (gl_le_c (rfl) (gl_le_c (rfl) (gl_le_c (rfl) (gl_le_o (gl_le_o (gl_le_n)))))))))) (rfl)
        · skip
          have qk := q.2 k hk
          refine gl_iload_8 (pc := 52) C dL_aim_52 ?_
          refine gl_aload_0 (pc := 54) C dL_aim_54 ?_
          refine gl_iconst (pc := 55) (nI 2) C dL_aim_55 (by decide) ?_
          refine gl_iald (pc := 56) _ C dL_aim_56 rfl rfl (by omega) ?_
          refine gl_top ((en_i (by omega)).trans hn) ?_
          refine gl_icmp_ge (pc := 57) 103 C dL_aim_57 (by decide) (fun h57 => absurd h57 (nI_ge hk (by omega))) (fun h57 => ?_)
          refine gl_aload_2 (pc := 60) C dL_aim_60 ?_
          refine gl_iload_8 (pc := 61) C dL_aim_61 ?_
          refine gl_lald (pc := 63) _ C dL_aim_63 rfl rfl (by omega) ?_
          refine gl_topl (en_c (by omega) hk) ?_
          refine gl_callSi (pc := 64) (ctL_is V.1 LA ok_LA _ q.1 qk) C dL_aim_64 gL_aim_L_is rfl hdL_is ⟨rfl, rfl, Nat.le_of_ble_eq_true rfl, Nat.le_of_ble_eq_true rfl⟩ rfl (Nat.le_of_ble_eq_true rfl) rfl ?_
          refine gl_iconst (pc := 67) (nI 2) C dL_aim_67 (by decide) ?_
          refine gl_icmp_ne (pc := 68) 97 C dL_aim_68 (by decide) (fun h68 => ?_) (fun h68 => ?_)
          · skip
            first | with_reducible refine gl_iincN_8 (pc := 97) gl_i1 C dL_aim_97 ?_ | refine gl_iinc_8 (pc := 97) C dL_aim_97 (gl_inc1 _) ?_
            refine gl_goto (pc := 100) 52 C dL_aim_100 (by decide) ?_
            exact gl_on (ih (lg_ck_s hI (by first | exact fun z => h68 z.1.1 | exact fun z => h78' z.1.2 | exact fun z => h91 z.2))) (gl_le_c (rfl) (gl_le_c (rfl) (gl_le_c (rfl) (gl_le_c (rfl) (gl_le_c (rfl) (gl_le_c (rfl) (gl_le_c (rfl) (gl_le_c (rfl) (gl_le_c (rfl) (gl_le_n)))))))))) (rfl)
          · skip
            refine gl_aload_2 (pc := 71) C dL_aim_71 ?_
            refine gl_iload_8 (pc := 72) C dL_aim_72 ?_
            refine gl_lald (pc := 74) _ C dL_aim_74 rfl rfl (by omega) ?_
            refine gl_topl (en_c (by omega) hk) ?_
            refine gl_callSi (pc := 75) (ctL_by V.1 LA ok_LA _ q.1 qk) C dL_aim_75 gL_aim_L_by rfl hdL_by ⟨rfl, rfl, Nat.le_of_ble_eq_true rfl, Nat.le_of_ble_eq_true rfl⟩ rfl (Nat.le_of_ble_eq_true rfl) rfl ?_
            refine gl_iload_3 (pc := 78) C dL_aim_78 ?_
            refine gl_icmp_ne (pc := 79) 97 C dL_aim_79 (by decide) (fun h79 => ?_) (fun h79 => ?_)
            · skip
              have h78' : ¬ S (iK k 3) = nI c := fun z => h79 ((qby_c qk (by omega)).mpr z)
              first | with_reducible refine gl_iincN_8 (pc := 97) gl_i1 C dL_aim_97 ?_ | refine gl_iinc_8 (pc := 97) C dL_aim_97 (gl_inc1 _) ?_
              refine gl_goto (pc := 100) 52 C dL_aim_100 (by decide) ?_
              exact gl_on (ih (lg_ck_s hI (by first | exact fun z => h68 z.1.1 | exact fun z => h78' z.1.2 | exact fun z => h91 z.2))) (gl_le_c (rfl) (gl_le_c (rfl) (gl_le_c (rfl) (gl_le_c (rfl) (gl_le_c (rfl) (gl_le_c (rfl) (gl_le_c (rfl) (gl_le_c (rfl) (gl_le_c (rfl) (gl_le_n)))))))))) (rfl)
            · skip
              replace h79 := (qby_c qk (by omega)).mp h79
              refine gl_aload_2 (pc := 82) C dL_aim_82 ?_
              refine gl_iload_8 (pc := 83) C dL_aim_83 ?_
              refine gl_lald (pc := 85) _ C dL_aim_85 rfl rfl (by omega) ?_
              refine gl_topl (en_c (by omega) hk) ?_
              refine gl_callSi (pc := 86) (ctL_goal V.1 LA ok_LA _ q.1 qk) C dL_aim_86 gL_aim_L_goal rfl hdL_goal ⟨rfl, rfl, Nat.le_of_ble_eq_true rfl, Nat.le_of_ble_eq_true rfl⟩ rfl (Nat.le_of_ble_eq_true rfl) rfl ?_
              refine gl_iload_7 (pc := 89) C dL_aim_89 ?_
              refine gl_icmp_ne (pc := 91) 97 C dL_aim_91 (by decide) (fun h91 => ?_) (fun h91 => ?_)
              · skip
                first | with_reducible refine gl_iincN_8 (pc := 97) gl_i1 C dL_aim_97 ?_ | refine gl_iinc_8 (pc := 97) C dL_aim_97 (gl_inc1 _) ?_
                refine gl_goto (pc := 100) 52 C dL_aim_100 (by decide) ?_
                exact gl_on (ih (lg_ck_s hI (by first | exact fun z => h68 z.1.1 | exact fun z => h78' z.1.2 | exact fun z => h91 z.2))) (gl_le_c (rfl) (gl_le_c (rfl) (gl_le_c (rfl) (gl_le_c (rfl) (gl_le_c (rfl) (gl_le_c (rfl) (gl_le_c (rfl) (gl_le_c (rfl) (gl_le_c (rfl) (gl_le_n)))))))))) (rfl)
              · skip
                refine gl_iload_7 (pc := 94) C dL_aim_94 ?_
                exact gl_iret (pc := 96) C dL_aim_96 (lg_aim_hit w ho hj hi hk hI13 hI23 ⟨h68, h79⟩ h91) (rfl)
