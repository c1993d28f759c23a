set_option maxRecDepth 100000 in
set_option maxHeartbeats 4000000 in
theorem ctL_fails (F : gl_F) {n m t A : Nat} {S : Nat → Int32} (w : sp_W n m t S) (ht31 : t < 1048575) (q : qW S A n) {c : Nat} (hc : c < m) (hA1 : A + 1 < 2048) : gl_Ct F LA yL_fails wsL_fails rmL_fails [.ref (gl_r F 0), .ref (gl_r F 2), .ref (gl_r F 3), .ref (gl_r F 4), .int (nI c)] (en S n) (none) ((en (sp_fail S c t n) n)) := by
  refine gl_met (cc := cL_fails) (maxL := 10) (ret := none) [some (.ref (gl_r F 0)), some (.ref (gl_r F 2)), some (.ref (gl_r F 3)), some (.ref (gl_r F 4)), some (.int (nI c)), none, none, none, none, none] (plainFor_of_name (by decide)) rfl ok_LA (by simp [Value.category]) (Nat.le_of_ble_eq_true rfl) rfl (fun V hV C => ?_)
  subst hV
  obtain ⟨hn40, hm5, hn, hm, ht, hcar, hcal⟩ := id w
  obtain ⟨o, ho, eo⟩ := (hcar c hc).2.2.1
  refine gl_aload_1 (pc := 0) C dL_fails_0 ?_
  refine gl_bipush (pc := 1) (nI 6) C dL_fails_1 (by decide +kernel) ?_
  refine gl_iload_4 (pc := 3) C dL_fails_3 ?_
  first | with_reducible refine gl_imulN (pc := 5) C dL_fails_5 ?_ | refine gl_imul (pc := 5) C dL_fails_5 ?_
  refine gl_iconst (pc := 6) (nI 3) C dL_fails_6 (by decide) ?_
  first | with_reducible refine gl_iaddN (pc := 7) C dL_fails_7 ?_ | refine gl_iadd (pc := 7) C dL_fails_7 ?_
  refine gl_iald (pc := 8) _ C dL_fails_8 rfl rfl (by omega) ?_
  refine gl_top (en_C (w := 3) (by omega) (by omega)) ?_
  refine gl_top eo ?_
  refine gl_istore_5 (pc := 9) C dL_fails_9 ?_
  refine gl_iconst (pc := 11) (nI 0) C dL_fails_11 (by decide) ?_
  refine gl_istore_6 (pc := 12) C dL_fails_12 ?_
  refine gl_loop (pc := 14) (n := n) (fun k => [some (.ref (gl_r V.1 0)), some (.ref (gl_r V.1 2)), some (.ref (gl_r V.1 3)), some (.ref (gl_r V.1 4)), some (.int (nI c)), some (.int (nI o)), some (.int (nI k)), none, none, none]) (fun k => (en (sp_lose S (nI c) (nI o) (nI t) k) n)) (fun k => True) 0 (Nat.zero_le _) (trivial) (gl_le_c (rfl) (gl_le_c (rfl) (gl_le_c (rfl) (gl_le_c (rfl) (gl_le_c (rfl) (gl_le_c (rfl) (gl_le_c (rfl) (gl_le_o (gl_le_o (gl_le_o (gl_le_n))))))))))) (rfl) (fun hI => ?_) (fun k hk hI ih => ?_)
  · skip
    have wk := sp_lose_W w (c := nI c) (tk := nI t) ⟨o, ho, rfl⟩ n (Nat.le_refl _)
    have enk := wk.2.2.1
    refine gl_iload_6 (pc := 14) C dL_fails_14 ?_
    refine gl_aload_0 (pc := 16) C dL_fails_16 ?_
    refine gl_iconst (pc := 17) (nI 2) C dL_fails_17 (by decide) ?_
    refine gl_iald (pc := 18) _ C dL_fails_18 rfl rfl (by omega) ?_
    refine gl_top ((en_i (by omega)).trans enk) ?_
    refine gl_icmp_ge (pc := 19) 174 C dL_fails_19 (by decide) (fun h19 => ?_) (fun h19 => absurd h19 (gl_xge))
    refine gl_aload_1 (pc := 174) C dL_fails_174 ?_
    refine gl_bipush (pc := 175) (nI 6) C dL_fails_175 (by decide +kernel) ?_
    refine gl_iload_4 (pc := 177) C dL_fails_177 ?_
    first | with_reducible refine gl_imulN (pc := 179) C dL_fails_179 ?_ | refine gl_imul (pc := 179) C dL_fails_179 ?_
    refine gl_iconst (pc := 180) (nI 4) C dL_fails_180 (by decide) ?_
    first | with_reducible refine gl_iaddN (pc := 181) C dL_fails_181 ?_ | refine gl_iadd (pc := 181) C dL_fails_181 ?_
    refine gl_iconst (pc := 182) (nI 2) C dL_fails_182 (by decide) ?_
    refine gl_iast (pc := 183) _ C dL_fails_183 rfl rfl (by omega) ?_
    refine gl_mem (en_uC (w := 4) (by omega) (by omega)) ?_
    exact gl_vret (pc := 184) C dL_fails_184 (congrArg (fun z => en z n) (by unfold sp_fail; rw [eo]; exact (sp_lose_st (by omega) n).symm))
  · skip
    have wk := sp_lose_W w (c := nI c) (tk := nI t) ⟨o, ho, rfl⟩ k (Nat.le_of_lt hk)
    have qq := q_lose q hA1 ht31 (cc := nI c) ho k (Nat.le_of_lt hk)
    have qk := qq.2.1 k hk
    have enk := wk.2.2.1
    refine gl_iload_6 (pc := 14) C dL_fails_14 ?_
    refine gl_aload_0 (pc := 16) C dL_fails_16 ?_
    refine gl_iconst (pc := 17) (nI 2) C dL_fails_17 (by decide) ?_
    refine gl_iald (pc := 18) _ C dL_fails_18 rfl rfl (by omega) ?_
    refine gl_top ((en_i (by omega)).trans enk) ?_
    refine gl_icmp_ge (pc := 19) 174 C dL_fails_19 (by decide) (fun h19 => absurd h19 (nI_ge hk (by omega))) (fun h19 => ?_)
    refine gl_aload_2 (pc := 22) C dL_fails_22 ?_
    refine gl_iload_6 (pc := 23) C dL_fails_23 ?_
    refine gl_lald (pc := 25) _ C dL_fails_25 rfl rfl (by omega) ?_
    refine gl_topl (en_c (by omega) hk) ?_
    refine gl_lstore_7 (pc := 26) C dL_fails_26 ?_
    refine gl_lload_7 (pc := 28) C dL_fails_28 ?_
    refine gl_callSi (pc := 30) (ctL_by V.1 LA ok_LA _ hA1 qk) C dL_fails_30 gL_fails_L_by rfl hdL_by ⟨rfl, rfl, Nat.le_of_ble_eq_true rfl, Nat.le_of_ble_eq_true rfl⟩ rfl (Nat.le_of_ble_eq_true rfl) rfl ?_
    refine gl_iload_4 (pc := 33) C dL_fails_33 ?_
    refine gl_icmp_ne (pc := 35) 69 C dL_fails_35 (by decide) (fun h35 => ?_) (fun h35 => ?_)
    · skip
      replace h35 := fun z => h35 ((qby_c qk (by omega)).mpr z)
      refine gl_lload_7 (pc := 69) C dL_fails_69 ?_
      refine gl_callSi (pc := 71) (ctL_by V.1 LA ok_LA _ hA1 qk) C dL_fails_71 gL_fails_L_by rfl hdL_by ⟨rfl, rfl, Nat.le_of_ble_eq_true rfl, Nat.le_of_ble_eq_true rfl⟩ rfl (Nat.le_of_ble_eq_true rfl) rfl ?_
      refine gl_iload_4 (pc := 74) C dL_fails_74 ?_
      refine gl_icmp_ne (pc := 76) 168 C dL_fails_76 (by decide) (fun h76 => ?_) (fun h76 => ?_)
      · skip
        replace h76 := fun z => h76 ((qby_c qk (by omega)).mpr z)
        first | with_reducible refine gl_iincN_6 (pc := 168) gl_i1 C dL_fails_168 ?_ | refine gl_iinc_6 (pc := 168) C dL_fails_168 (gl_inc1 _) ?_
        refine gl_goto (pc := 171) 14 C dL_fails_171 (by decide) ?_
        exact gl_on (ih (trivial)) (gl_le_c (rfl) (gl_le_c (rfl) (gl_le_c (rfl) (gl_le_c (rfl) (gl_le_c (rfl) (gl_le_c (rfl) (gl_le_c (rfl) (gl_le_o (gl_le_o (gl_le_o (gl_le_n))))))))))) (by simp only [sp_lose]; rw [if_neg (fun z => by first | exact h76 z.2 | exact h85 z.1), if_neg (fun z => by first | exact h35 z.2 | exact h44 z.1)])
      · skip
        replace h76 := (qby_c qk (by omega)).mp h76
        refine gl_lload_7 (pc := 79) C dL_fails_79 ?_
        refine gl_callSi (pc := 81) (ctL_is V.1 LA ok_LA _ hA1 qk) C dL_fails_81 gL_fails_L_is rfl hdL_is ⟨rfl, rfl, Nat.le_of_ble_eq_true rfl, Nat.le_of_ble_eq_true rfl⟩ rfl (Nat.le_of_ble_eq_true rfl) rfl ?_
        refine gl_iconst (pc := 84) (nI 2) C dL_fails_84 (by decide) ?_
        refine gl_icmp_ne (pc := 85) 168 C dL_fails_85 (by decide) (fun h85 => ?_) (fun h85 => ?_)
        · skip
          first | with_reducible refine gl_iincN_6 (pc := 168) gl_i1 C dL_fails_168 ?_ | refine gl_iinc_6 (pc := 168) C dL_fails_168 (gl_inc1 _) ?_
          refine gl_goto (pc := 171) 14 C dL_fails_171 (by decide) ?_
          exact gl_on (ih (trivial)) (gl_le_c (rfl) (gl_le_c (rfl) (gl_le_c (rfl) (gl_le_c (rfl) (gl_le_c (rfl) (gl_le_c (rfl) (gl_le_c (rfl) (gl_le_o (gl_le_o (gl_le_o (gl_le_n))))))))))) (by simp only [sp_lose]; rw [if_neg (fun z => by first | exact h76 z.2 | exact h85 z.1), if_neg (fun z => by first | exact h35 z.2 | exact h44 z.1)])
        · skip
          refine gl_lload_7 (pc := 88) C dL_fails_88 ?_
          refine gl_callSi (pc := 90) (ctL_goal V.1 LA ok_LA _ hA1 qk) C dL_fails_90 gL_fails_L_goal rfl hdL_goal ⟨rfl, rfl, Nat.le_of_ble_eq_true rfl, Nat.le_of_ble_eq_true rfl⟩ rfl (Nat.le_of_ble_eq_true rfl) rfl ?_
          refine gl_iload_5 (pc := 93) C dL_fails_93 ?_
          refine gl_icmp_ne (pc := 95) 102 C dL_fails_95 (by decide) (fun h95 => ?_) (fun h95 => ?_)
          · skip
            refine gl_iconst (pc := 102) (nI 0) C dL_fails_102 (by decide) ?_
            refine gl_istore_9 (pc := 103) C dL_fails_103 ?_
            refine gl_aload_2 (pc := 105) C dL_fails_105 ?_
            refine gl_iload_6 (pc := 106) C dL_fails_106 ?_
            refine gl_lload_7 (pc := 108) C dL_fails_108 ?_
            refine gl_ldc2 (pc := 110) (-16) C dL_fails_110 (by decide +kernel) ?_
            refine gl_land (pc := 113) C dL_fails_113 ?_
            refine gl_iload_5 (pc := 114) C dL_fails_114 ?_
            refine gl_i2l (pc := 116) C dL_fails_116 ?_
            refine gl_lor (pc := 117) C dL_fails_117 ?_
            refine gl_iload_9 (pc := 118) C dL_fails_118 ?_
            refine gl_ifeq (pc := 120) 129 C dL_fails_120 (by decide) (fun h120 => ?_) (fun h120 => absurd h120 (not_not_intro nI_0'))
            refine gl_ldc2 (pc := 129) (-512) C dL_fails_129 (by decide +kernel) ?_
            refine gl_iload_4 (pc := 132) C dL_fails_132 ?_
            refine gl_i2l (pc := 134) C dL_fails_134 ?_
            refine gl_lconst (pc := 135) (1) C dL_fails_135 (by decide) ?_
            refine gl_ladd (pc := 136) C dL_fails_136 ?_
            refine gl_bipush (pc := 137) (nI 10) C dL_fails_137 (by decide +kernel) ?_
            refine gl_lshl (pc := 139) C dL_fails_139 ?_
            refine gl_lsub (pc := 140) C dL_fails_140 ?_
            refine gl_ladd (pc := 141) C dL_fails_141 ?_
            refine gl_last (pc := 142) _ C dL_fails_142 rfl rfl (by omega) ?_
            refine gl_mem (lg_r_mem hA1 hk hn40 qk (by omega) ho h85 h76) ?_
            refine gl_aload_3 (pc := 143) C dL_fails_143 ?_
            refine gl_iload_6 (pc := 144) C dL_fails_144 ?_
            refine gl_dup2 (pc := 146) C dL_fails_146 ?_
            refine gl_lald (pc := 147) _ C dL_fails_147 rfl rfl (by omega) ?_
            refine gl_topl (en_r (by omega) hk) ?_
            refine gl_iload_9 (pc := 148) C dL_fails_148 ?_
            refine gl_ifeq (pc := 150) 165 C dL_fails_150 (by decide) (fun h150 => ?_) (fun h150 => absurd h150 (not_not_intro nI_0'))
            refine gl_lconst (pc := 165) (0) C dL_fails_165 (by decide) ?_
            refine gl_ladd (pc := 166) C dL_fails_166 ?_
            refine gl_last (pc := 167) _ C dL_fails_167 rfl rfl (by omega) ?_
            refine gl_mem (lg_n_mem hk hn40) ?_
            first | with_reducible refine gl_iincN_6 (pc := 168) gl_i1 C dL_fails_168 ?_ | refine gl_iinc_6 (pc := 168) C dL_fails_168 (gl_inc1 _) ?_
            refine gl_goto (pc := 171) 14 C dL_fails_171 (by decide) ?_
            exact gl_on (ih (trivial)) (gl_le_c (rfl) (gl_le_c (rfl) (gl_le_c (rfl) (gl_le_c (rfl) (gl_le_c (rfl) (gl_le_c (rfl) (gl_le_c (rfl) (gl_le_o (gl_le_o (gl_le_o (gl_le_n))))))))))) (by simp only [sp_lose]; rw [if_pos ⟨h85, h76⟩, if_neg h95])
          · skip
            refine gl_iconst (pc := 98) (nI 1) C dL_fails_98 (by decide) ?_
            refine gl_goto (pc := 99) 103 C dL_fails_99 (by decide) ?_
            refine gl_istore_9 (pc := 103) C dL_fails_103 ?_
            refine gl_aload_2 (pc := 105) C dL_fails_105 ?_
            refine gl_iload_6 (pc := 106) C dL_fails_106 ?_
            refine gl_lload_7 (pc := 108) C dL_fails_108 ?_
            refine gl_ldc2 (pc := 110) (-16) C dL_fails_110 (by decide +kernel) ?_
            refine gl_land (pc := 113) C dL_fails_113 ?_
            refine gl_iload_5 (pc := 114) C dL_fails_114 ?_
            refine gl_i2l (pc := 116) C dL_fails_116 ?_
            refine gl_lor (pc := 117) C dL_fails_117 ?_
            refine gl_iload_9 (pc := 118) C dL_fails_118 ?_
            refine gl_ifeq (pc := 120) 129 C dL_fails_120 (by decide) (fun h120 => absurd h120 (by decide)) (fun h120 => ?_)
            refine gl_ldc2 (pc := 123) (256) C dL_fails_123 (by decide +kernel) ?_
            refine gl_goto (pc := 126) 141 C dL_fails_126 (by decide) ?_
            refine gl_ladd (pc := 141) C dL_fails_141 ?_
            refine gl_last (pc := 142) _ C dL_fails_142 rfl rfl (by omega) ?_
            have q6 := qk_6 qk (by rw [h85]; decide)
            refine gl_mem (lg_t_mem hA1 hk hn40 qk ho h85) ?_
            refine gl_aload_3 (pc := 143) C dL_fails_143 ?_
            refine gl_iload_6 (pc := 144) C dL_fails_144 ?_
            refine gl_dup2 (pc := 146) C dL_fails_146 ?_
            refine gl_lald (pc := 147) _ C dL_fails_147 rfl rfl (by omega) ?_
            refine gl_topl (en_r (by omega) hk) ?_
            refine gl_iload_9 (pc := 148) C dL_fails_148 ?_
            refine gl_ifeq (pc := 150) 165 C dL_fails_150 (by decide) (fun h150 => absurd h150 (by decide)) (fun h150 => ?_)
            refine gl_aload_0 (pc := 153) C dL_fails_153 ?_
            refine gl_iconst (pc := 154) (nI 0) C dL_fails_154 (by decide) ?_
            refine gl_iald (pc := 155) _ C dL_fails_155 rfl rfl (by omega) ?_
            refine gl_top ((en_i (by omega)).trans ((gl_upd_ne (by unfold iK; omega)).trans ((gl_upd_ne (by unfold iK; omega)).trans wk.2.2.2.2.1))) ?_
            refine gl_i2l (pc := 156) C dL_fails_156 ?_
            refine gl_lconst (pc := 157) (1) C dL_fails_157 (by decide) ?_
            refine gl_ladd (pc := 158) C dL_fails_158 ?_
            refine gl_bipush (pc := 159) (nI 20) C dL_fails_159 (by decide +kernel) ?_
            refine gl_lshl (pc := 161) C dL_fails_161 ?_
            refine gl_goto (pc := 162) 166 C dL_fails_162 (by decide) ?_
            refine gl_ladd (pc := 166) C dL_fails_166 ?_
            refine gl_last (pc := 167) _ C dL_fails_167 rfl rfl (by omega) ?_
            refine gl_mem (lg_y_mem hA1 hk hn40 (qk_t qk ho h85) ((rK (by omega) (by omega) (by omega)).trans ((rK (by omega) (by omega) (by omega)).trans q6)) ht31) ?_
            first | with_reducible refine gl_iincN_6 (pc := 168) gl_i1 C dL_fails_168 ?_ | refine gl_iinc_6 (pc := 168) C dL_fails_168 (gl_inc1 _) ?_
            refine gl_goto (pc := 171) 14 C dL_fails_171 (by decide) ?_
            exact gl_on (ih (trivial)) (gl_le_c (rfl) (gl_le_c (rfl) (gl_le_c (rfl) (gl_le_c (rfl) (gl_le_c (rfl) (gl_le_c (rfl) (gl_le_c (rfl) (gl_le_o (gl_le_o (gl_le_o (gl_le_n))))))))))) (by simp only [sp_lose]; rw [if_pos ⟨h85, h76⟩, if_pos h95])
    · skip
      replace h35 := (qby_c qk (by omega)).mp h35
      refine gl_lload_7 (pc := 38) C dL_fails_38 ?_
      refine gl_callSi (pc := 40) (ctL_is V.1 LA ok_LA _ hA1 qk) C dL_fails_40 gL_fails_L_is rfl hdL_is ⟨rfl, rfl, Nat.le_of_ble_eq_true rfl, Nat.le_of_ble_eq_true rfl⟩ rfl (Nat.le_of_ble_eq_true rfl) rfl ?_
      refine gl_iconst (pc := 43) (nI 1) C dL_fails_43 (by decide) ?_
      refine gl_icmp_ne (pc := 44) 69 C dL_fails_44 (by decide) (fun h44 => ?_) (fun h44 => ?_)
      · skip
        refine gl_lload_7 (pc := 69) C dL_fails_69 ?_
        refine gl_callSi (pc := 71) (ctL_by V.1 LA ok_LA _ hA1 qk) C dL_fails_71 gL_fails_L_by rfl hdL_by ⟨rfl, rfl, Nat.le_of_ble_eq_true rfl, Nat.le_of_ble_eq_true rfl⟩ rfl (Nat.le_of_ble_eq_true rfl) rfl ?_
        refine gl_iload_4 (pc := 74) C dL_fails_74 ?_
        refine gl_icmp_ne (pc := 76) 168 C dL_fails_76 (by decide) (fun h76 => ?_) (fun h76 => ?_)
        · skip
          replace h76 := fun z => h76 ((qby_c qk (by omega)).mpr z)
          first | with_reducible refine gl_iincN_6 (pc := 168) gl_i1 C dL_fails_168 ?_ | refine gl_iinc_6 (pc := 168) C dL_fails_168 (gl_inc1 _) ?_
          refine gl_goto (pc := 171) 14 C dL_fails_171 (by decide) ?_
          exact gl_on (ih (trivial)) (gl_le_c (rfl) (gl_le_c (rfl) (gl_le_c (rfl) (gl_le_c (rfl) (gl_le_c (rfl) (gl_le_c (rfl) (gl_le_c (rfl) (gl_le_o (gl_le_o (gl_le_o (gl_le_n))))))))))) (by simp only [sp_lose]; rw [if_neg (fun z => by first | exact h76 z.2 | exact h85 z.1), if_neg (fun z => by first | exact h35 z.2 | exact h44 z.1)])
        · skip
          replace h76 := (qby_c qk (by omega)).mp h76
          refine gl_lload_7 (pc := 79) C dL_fails_79 ?_
          refine gl_callSi (pc := 81) (ctL_is V.1 LA ok_LA _ hA1 qk) C dL_fails_81 gL_fails_L_is rfl hdL_is ⟨rfl, rfl, Nat.le_of_ble_eq_true rfl, Nat.le_of_ble_eq_true rfl⟩ rfl (Nat.le_of_ble_eq_true rfl) rfl ?_
          refine gl_iconst (pc := 84) (nI 2) C dL_fails_84 (by decide) ?_
          refine gl_icmp_ne (pc := 85) 168 C dL_fails_85 (by decide) (fun h85 => ?_) (fun h85 => ?_)
          · skip
            first | with_reducible refine gl_iincN_6 (pc := 168) gl_i1 C dL_fails_168 ?_ | refine gl_iinc_6 (pc := 168) C dL_fails_168 (gl_inc1 _) ?_
            refine gl_goto (pc := 171) 14 C dL_fails_171 (by decide) ?_
            exact gl_on (ih (trivial)) (gl_le_c (rfl) (gl_le_c (rfl) (gl_le_c (rfl) (gl_le_c (rfl) (gl_le_c (rfl) (gl_le_c (rfl) (gl_le_c (rfl) (gl_le_o (gl_le_o (gl_le_o (gl_le_n))))))))))) (by simp only [sp_lose]; rw [if_neg (fun z => by first | exact h76 z.2 | exact h85 z.1), if_neg (fun z => by first | exact h35 z.2 | exact h44 z.1)])
          · skip
            refine gl_lload_7 (pc := 88) C dL_fails_88 ?_
            refine gl_callSi (pc := 90) (ctL_goal V.1 LA ok_LA _ hA1 qk) C dL_fails_90 gL_fails_L_goal rfl hdL_goal ⟨rfl, rfl, Nat.le_of_ble_eq_true rfl, Nat.le_of_ble_eq_true rfl⟩ rfl (Nat.le_of_ble_eq_true rfl) rfl ?_
            refine gl_iload_5 (pc := 93) C dL_fails_93 ?_
            refine gl_icmp_ne (pc := 95) 102 C dL_fails_95 (by decide) (fun h95 => ?_) (fun h95 => ?_)
            · skip
              refine gl_iconst (pc := 102) (nI 0) C dL_fails_102 (by decide) ?_
              refine gl_istore_9 (pc := 103) C dL_fails_103 ?_
              refine gl_aload_2 (pc := 105) C dL_fails_105 ?_
              refine gl_iload_6 (pc := 106) C dL_fails_106 ?_
              refine gl_lload_7 (pc := 108) C dL_fails_108 ?_
              refine gl_ldc2 (pc := 110) (-16) C dL_fails_110 (by decide +kernel) ?_
              refine gl_land (pc := 113) C dL_fails_113 ?_
              refine gl_iload_5 (pc := 114) C dL_fails_114 ?_
              refine gl_i2l (pc := 116) C dL_fails_116 ?_
              refine gl_lor (pc := 117) C dL_fails_117 ?_
              refine gl_iload_9 (pc := 118) C dL_fails_118 ?_
              refine gl_ifeq (pc := 120) 129 C dL_fails_120 (by decide) (fun h120 => ?_) (fun h120 => absurd h120 (not_not_intro nI_0'))
              refine gl_ldc2 (pc := 129) (-512) C dL_fails_129 (by decide +kernel) ?_
              refine gl_iload_4 (pc := 132) C dL_fails_132 ?_
              refine gl_i2l (pc := 134) C dL_fails_134 ?_
              refine gl_lconst (pc := 135) (1) C dL_fails_135 (by decide) ?_
              refine gl_ladd (pc := 136) C dL_fails_136 ?_
              refine gl_bipush (pc := 137) (nI 10) C dL_fails_137 (by decide +kernel) ?_
              refine gl_lshl (pc := 139) C dL_fails_139 ?_
              refine gl_lsub (pc := 140) C dL_fails_140 ?_
              refine gl_ladd (pc := 141) C dL_fails_141 ?_
              refine gl_last (pc := 142) _ C dL_fails_142 rfl rfl (by omega) ?_
              refine gl_mem (lg_r_mem hA1 hk hn40 qk (by omega) ho h85 h76) ?_
              refine gl_aload_3 (pc := 143) C dL_fails_143 ?_
              refine gl_iload_6 (pc := 144) C dL_fails_144 ?_
              refine gl_dup2 (pc := 146) C dL_fails_146 ?_
              refine gl_lald (pc := 147) _ C dL_fails_147 rfl rfl (by omega) ?_
              refine gl_topl (en_r (by omega) hk) ?_
              refine gl_iload_9 (pc := 148) C dL_fails_148 ?_
              refine gl_ifeq (pc := 150) 165 C dL_fails_150 (by decide) (fun h150 => ?_) (fun h150 => absurd h150 (not_not_intro nI_0'))
              refine gl_lconst (pc := 165) (0) C dL_fails_165 (by decide) ?_
              refine gl_ladd (pc := 166) C dL_fails_166 ?_
              refine gl_last (pc := 167) _ C dL_fails_167 rfl rfl (by omega) ?_
              refine gl_mem (lg_n_mem hk hn40) ?_
              first | with_reducible refine gl_iincN_6 (pc := 168) gl_i1 C dL_fails_168 ?_ | refine gl_iinc_6 (pc := 168) C dL_fails_168 (gl_inc1 _) ?_
              refine gl_goto (pc := 171) 14 C dL_fails_171 (by decide) ?_
              exact gl_on (ih (trivial)) (gl_le_c (rfl) (gl_le_c (rfl) (gl_le_c (rfl) (gl_le_c (rfl) (gl_le_c (rfl) (gl_le_c (rfl) (gl_le_c (rfl) (gl_le_o (gl_le_o (gl_le_o (gl_le_n))))))))))) (by simp only [sp_lose]; rw [if_pos ⟨h85, h76⟩, if_neg h95])
            · skip
              refine gl_iconst (pc := 98) (nI 1) C dL_fails_98 (by decide) ?_
              refine gl_goto (pc := 99) 103 C dL_fails_99 (by decide) ?_
              refine gl_istore_9 (pc := 103) C dL_fails_103 ?_
              refine gl_aload_2 (pc := 105) C dL_fails_105 ?_
              refine gl_iload_6 (pc := 106) C dL_fails_106 ?_
              refine gl_lload_7 (pc := 108) C dL_fails_108 ?_
              refine gl_ldc2 (pc := 110) (-16) C dL_fails_110 (by decide +kernel) ?_
              refine gl_land (pc := 113) C dL_fails_113 ?_
              refine gl_iload_5 (pc := 114) C dL_fails_114 ?_
              refine gl_i2l (pc := 116) C dL_fails_116 ?_
              refine gl_lor (pc := 117) C dL_fails_117 ?_
              refine gl_iload_9 (pc := 118) C dL_fails_118 ?_
              refine gl_ifeq (pc := 120) 129 C dL_fails_120 (by decide) (fun h120 => absurd h120 (by decide)) (fun h120 => ?_)
              refine gl_ldc2 (pc := 123) (256) C dL_fails_123 (by decide +kernel) ?_
              refine gl_goto (pc := 126) 141 C dL_fails_126 (by decide) ?_
              refine gl_ladd (pc := 141) C dL_fails_141 ?_
              refine gl_last (pc := 142) _ C dL_fails_142 rfl rfl (by omega) ?_
              have q6 := qk_6 qk (by rw [h85]; decide)
              refine gl_mem (lg_t_mem hA1 hk hn40 qk ho h85) ?_
              refine gl_aload_3 (pc := 143) C dL_fails_143 ?_
              refine gl_iload_6 (pc := 144) C dL_fails_144 ?_
              refine gl_dup2 (pc := 146) C dL_fails_146 ?_
              refine gl_lald (pc := 147) _ C dL_fails_147 rfl rfl (by omega) ?_
              refine gl_topl (en_r (by omega) hk) ?_
              refine gl_iload_9 (pc := 148) C dL_fails_148 ?_
              refine gl_ifeq (pc := 150) 165 C dL_fails_150 (by decide) (fun h150 => absurd h150 (by decide)) (fun h150 => ?_)
              refine gl_aload_0 (pc := 153) C dL_fails_153 ?_
              refine gl_iconst (pc := 154) (nI 0) C dL_fails_154 (by decide) ?_
              refine gl_iald (pc := 155) _ C dL_fails_155 rfl rfl (by omega) ?_
              refine gl_top ((en_i (by omega)).trans ((gl_upd_ne (by unfold iK; omega)).trans ((gl_upd_ne (by unfold iK; omega)).trans wk.2.2.2.2.1))) ?_
              refine gl_i2l (pc := 156) C dL_fails_156 ?_
              refine gl_lconst (pc := 157) (1) C dL_fails_157 (by decide) ?_
              refine gl_ladd (pc := 158) C dL_fails_158 ?_
              refine gl_bipush (pc := 159) (nI 20) C dL_fails_159 (by decide +kernel) ?_
              refine gl_lshl (pc := 161) C dL_fails_161 ?_
              refine gl_goto (pc := 162) 166 C dL_fails_162 (by decide) ?_
              refine gl_ladd (pc := 166) C dL_fails_166 ?_
              refine gl_last (pc := 167) _ C dL_fails_167 rfl rfl (by omega) ?_
              refine gl_mem (lg_y_mem hA1 hk hn40 (qk_t qk ho h85) ((rK (by omega) (by omega) (by omega)).trans ((rK (by omega) (by omega) (by omega)).trans q6)) ht31) ?_
              first | with_reducible refine gl_iincN_6 (pc := 168) gl_i1 C dL_fails_168 ?_ | refine gl_iinc_6 (pc := 168) C dL_fails_168 (gl_inc1 _) ?_
              refine gl_goto (pc := 171) 14 C dL_fails_171 (by decide) ?_
              exact gl_on (ih (trivial)) (gl_le_c (rfl) (gl_le_c (rfl) (gl_le_c (rfl) (gl_le_c (rfl) (gl_le_c (rfl) (gl_le_c (rfl) (gl_le_c (rfl) (gl_le_o (gl_le_o (gl_le_o (gl_le_n))))))))))) (by simp only [sp_lose]; rw [if_pos ⟨h85, h76⟩, if_pos h95])
      · skip
        refine gl_aload_2 (pc := 47) C dL_fails_47 ?_
        refine gl_iload_6 (pc := 48) C dL_fails_48 ?_
        refine gl_lload_7 (pc := 50) C dL_fails_50 ?_
        refine gl_ldc2 (pc := 52) (256) C dL_fails_52 (by decide +kernel) ?_
        refine gl_lsub (pc := 55) C dL_fails_55 ?_
        refine gl_iload_4 (pc := 56) C dL_fails_56 ?_
        refine gl_i2l (pc := 58) C dL_fails_58 ?_
        refine gl_lconst (pc := 59) (1) C dL_fails_59 (by decide) ?_
        refine gl_ladd (pc := 60) C dL_fails_60 ?_
        refine gl_bipush (pc := 61) (nI 10) C dL_fails_61 (by decide +kernel) ?_
        refine gl_lshl (pc := 63) C dL_fails_63 ?_
        refine gl_lsub (pc := 64) C dL_fails_64 ?_
        refine gl_last (pc := 65) _ C dL_fails_65 rfl rfl (by omega) ?_
        refine gl_mem (lg_w_mem hA1 hk hn40 qk (by omega) h44 h35) ?_
        refine gl_goto (pc := 66) 168 C dL_fails_66 (by decide) ?_
        first | with_reducible refine gl_iincN_6 (pc := 168) gl_i1 C dL_fails_168 ?_ | refine gl_iinc_6 (pc := 168) C dL_fails_168 (gl_inc1 _) ?_
        refine gl_goto (pc := 171) 14 C dL_fails_171 (by decide) ?_
        exact gl_on (ih (trivial)) (gl_le_c (rfl) (gl_le_c (rfl) (gl_le_c (rfl) (gl_le_c (rfl) (gl_le_c (rfl) (gl_le_c (rfl) (gl_le_c (rfl) (gl_le_o (gl_le_o (gl_le_o (gl_le_n))))))))))) (by simp only [sp_lose]; rw [if_neg (fun z => n12 (h44.symm.trans z.1)), if_pos ⟨h44, h35⟩])
