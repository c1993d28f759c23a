set_option maxRecDepth 100000 in
set_option maxHeartbeats 4000000 in
theorem ctL_goes (F : gl_F) {n m t A : Nat} {S : Nat → Int32} (w : sp_W n m t S) (ht31 : t < 1048575) (q : qW S A n) {c : Nat} (hc : c < m) : gl_Ct F LA yL_goes wsL_goes rmL_goes [.ref (gl_r F 0), .ref (gl_r F 2), .ref (gl_r F 3), .ref (gl_r F 4), .int (nI c)] (en S n) (none) ((en (sp_stop S c t n) n)) := by
  refine gl_met (cc := cL_goes) (maxL := 11) (ret := none) [some (.ref (gl_r F 0)), some (.ref (gl_r F 2)), some (.ref (gl_r F 3)), some (.ref (gl_r F 4)), some (.int (nI c)), none, none, none, none, none, none] (plainFor_of_name (by decide)) rfl ok_LA (by simp [Value.category]) (Nat.le_of_ble_eq_true rfl) rfl (fun V hV C => ?_)
  subst hV
  obtain ⟨hn40, hm5, hn, hm, ht, hcar, hcal⟩ := id w
  obtain ⟨pp, hp1, hp8, ep⟩ := (hcar c hc).2.2.2
  refine gl_bipush (pc := 0) (nI 6) C dL_goes_0 (by decide +kernel) ?_
  refine gl_iload_4 (pc := 2) C dL_goes_2 ?_
  first | with_reducible refine gl_imulN (pc := 4) C dL_goes_4 ?_ | refine gl_imul (pc := 4) C dL_goes_4 ?_
  refine gl_istore_5 (pc := 5) C dL_goes_5 ?_
  refine gl_iconst (pc := 7) (nI 0) C dL_goes_7 (by decide) ?_
  refine gl_istore_6 (pc := 8) C dL_goes_8 ?_
  refine gl_iconst (pc := 10) (nI 0) C dL_goes_10 (by decide) ?_
  refine gl_istore_7 (pc := 11) C dL_goes_11 ?_
  refine gl_aload_0 (pc := 13) C dL_goes_13 ?_
  refine gl_aload_1 (pc := 14) C dL_goes_14 ?_
  refine gl_aload_2 (pc := 15) C dL_goes_15 ?_
  refine gl_iload_4 (pc := 16) C dL_goes_16 ?_
  refine gl_callSi (pc := 18) (ctL_aim V.1 w ht31 q hc) C dL_goes_18 gL_goes_L_aim rfl hdL_aim ⟨rfl, rfl, Nat.le_of_ble_eq_true rfl, Nat.le_of_ble_eq_true rfl⟩ rfl (Nat.le_of_ble_eq_true rfl) rfl ?_
  refine gl_istore_8 (pc := 21) C dL_goes_21 ?_
  refine gl_iconst (pc := 23) (nI 0) C dL_goes_23 (by decide) ?_
  refine gl_istore_9 (pc := 24) C dL_goes_24 ?_
  refine gl_loop (pc := 26) (n := n) (fun k => [some (.ref (gl_r V.1 0)), some (.ref (gl_r V.1 2)), some (.ref (gl_r V.1 3)), some (.ref (gl_r V.1 4)), some (.int (nI c)), some (.int (nI (6 * c))), some (.int (nI (sp_outn S (nI c) (S (iC c 3)) (nI t) k))), some (.int (nI 0)), some (.int (sp_aim S (nI c) (S (iC c 3)) n)), some (.int (nI k)), none]) (fun k => (en (sp_outs S (nI c) (S (iC c 3)) (nI t) k) n)) (fun k => True) 0 (Nat.zero_le _) (trivial) (gl_le_c (rfl) (gl_le_c (rfl) (gl_le_c (rfl) (gl_le_c (rfl) (gl_le_c (rfl) (gl_le_c (rfl) (gl_le_c (rfl) (gl_le_c (rfl) (gl_le_c (rfl) (gl_le_c (rfl) (gl_le_o (gl_le_n)))))))))))) (rfl) (fun hI => ?_) (fun k hk hI ih => ?_)
  · skip
    have wn := sp_outs_W w (c := (nI c)) (fl := (S (iC c 3))) (tk := (nI t)) n (Nat.le_refl _)
    have qn := q_outs q ht31 (cc := (nI c)) (fl := (S (iC c 3))) n (Nat.le_refl _)
    have enk := wn.2.2.1
    refine gl_iload_9 (pc := 26) C dL_goes_26 ?_
    refine gl_aload_0 (pc := 28) C dL_goes_28 ?_
    refine gl_iconst (pc := 29) (nI 2) C dL_goes_29 (by decide) ?_
    refine gl_iald (pc := 30) _ C dL_goes_30 rfl rfl (by omega) ?_
    refine gl_top ((en_i (by omega)).trans enk) ?_
    refine gl_icmp_ge (pc := 31) 108 C dL_goes_31 (by decide) (fun h31 => ?_) (fun h31 => absurd h31 (gl_xge))
    refine gl_aload_1 (pc := 108) C dL_goes_108 ?_
    refine gl_iload_5 (pc := 109) C dL_goes_109 ?_
    refine gl_iconst (pc := 111) (nI 2) C dL_goes_111 (by decide) ?_
    first | with_reducible refine gl_iaddN (pc := 112) C dL_goes_112 ?_ | refine gl_iadd (pc := 112) C dL_goes_112 ?_
    refine gl_iald (pc := 113) _ C dL_goes_113 rfl rfl (by omega) ?_
    refine gl_top ((en_C (w := 2) (by omega) (by omega)).trans (sp_outs_o (M := S) (c := (nI c)) (fl := (S (iC c 3))) (tk := (nI t)) (fun j => ⟨iCK (by omega) (by omega), iCK (by omega) (by omega)⟩) n)) ?_
    refine gl_aload_0 (pc := 114) C dL_goes_114 ?_
    refine gl_aload_2 (pc := 115) C dL_goes_115 ?_
    refine gl_iload_4 (pc := 116) C dL_goes_116 ?_
    refine gl_iconst (pc := 118) (nI 2) C dL_goes_118 (by decide) ?_
    refine gl_callSi (pc := 119) (ctL_those V.1 hn40 wn.2.2.1 qn (c := c) (by omega) (nI 2)) C dL_goes_119 gL_goes_L_those rfl hdL_those ⟨rfl, rfl, Nat.le_of_ble_eq_true rfl, Nat.le_of_ble_eq_true rfl⟩ rfl (Nat.le_of_ble_eq_true rfl) rfl ?_
    refine gl_isub (pc := 122) C dL_goes_122 ?_
    refine gl_istore_9 (pc := 123) C dL_goes_123 ?_
    refine gl_iconst (pc := 125) (nI 0) C dL_goes_125 (by decide) ?_
    refine gl_istore_10 (pc := 126) C dL_goes_126 ?_
    refine gl_loop (pc := 128) (n := n) (fun k => [some (.ref (gl_r V.1 0)), some (.ref (gl_r V.1 2)), some (.ref (gl_r V.1 3)), some (.ref (gl_r V.1 4)), some (.int (nI c)), some (.int (nI (6 * c))), some (.int (nI (sp_outn S (nI c) (S (iC c 3)) (nI t) n))), some (.int (nI (sp_takn (sp_outs S (nI c) (S (iC c 3)) (nI t) n) (nI c) (S (iC c 3)) (S (iC c 2)) (nI t) n k))), some (.int (sp_aim S (nI c) (S (iC c 3)) n)), some (.int ((S (iC c 2)) - sp_of (sp_outs S (nI c) (S (iC c 3)) (nI t) n) (nI c) (nI 2) n)), some (.int (nI k))]) (fun k => (en (sp_tak (sp_outs S (nI c) (S (iC c 3)) (nI t) n) (nI c) (S (iC c 3)) (S (iC c 2)) (nI t) n k) n)) (fun k => True) 0 (Nat.zero_le _) (trivial) (gl_le_c (rfl) (gl_le_c (rfl) (gl_le_c (rfl) (gl_le_c (rfl) (gl_le_c (rfl) (gl_le_c (rfl) (gl_le_c (rfl) (gl_le_c (rfl) (gl_le_c (rfl) (gl_le_c (rfl) (gl_le_c (rfl) (gl_le_n)))))))))))) (rfl) (fun hI => ?_) (fun k hk hI ih => ?_)
    · skip
      have wk := sp_tak_W wn (c := (nI c)) (fl := (S (iC c 3))) (pl := (S (iC c 2))) (tk := (nI t)) n (Nat.le_refl _)
      have enk := wk.2.2.1
      refine gl_iload_10 (pc := 128) C dL_goes_128 ?_
      refine gl_aload_0 (pc := 130) C dL_goes_130 ?_
      refine gl_iconst (pc := 131) (nI 2) C dL_goes_131 (by decide) ?_
      refine gl_iald (pc := 132) _ C dL_goes_132 rfl rfl (by omega) ?_
      refine gl_top ((en_i (by omega)).trans enk) ?_
      refine gl_icmp_ge (pc := 133) 211 C dL_goes_133 (by decide) (fun h133 => ?_) (fun h133 => absurd h133 (gl_xge))
      refine gl_iload_7 (pc := 211) C dL_goes_211 ?_
      refine gl_iload_6 (pc := 213) C dL_goes_213 ?_
      first | with_reducible refine gl_iaddN (pc := 215) C dL_goes_215 ?_ | refine gl_iadd (pc := 215) C dL_goes_215 ?_
      refine gl_ifle (pc := 216) 229 C dL_goes_216 (by decide) (fun h216 => ?_) (fun h216 => ?_)
      · skip
        have h0 := lg_two0 (by have := sp_outn_le (M := S) (c := (nI c)) (fl := (S (iC c 3))) (tk := (nI t)) n; have := sp_takn_le (M := (sp_outs S (nI c) (S (iC c 3)) (nI t) n)) (c := (nI c)) (fl := (S (iC c 3))) (pl := (S (iC c 2))) (tk := (nI t)) (n := n) n; omega) h216
        have hs : ¬ sp_isStop S (nI c) (S (iC c 3)) (S (iC c 2)) n := fun z => by have := sp_two_yes (tk := (nI t)) z; unfold sp_twon at this; omega
        have e2 := (sp_two_no (tk := (nI t)) hs).1
        unfold sp_two at e2
        refine gl_mem (congrArg (fun z => en z n) e2) ?_
        refine gl_iload_8 (pc := 229) C dL_goes_229 ?_
        refine gl_iflt (pc := 231) 269 C dL_goes_231 (by decide) (fun h231 => ?_) (fun h231 => ?_)
        · skip
          have ha : sp_aim S (nI c) (S (iC c 3)) n = -9 := Classical.byContradiction (fun z => by obtain ⟨y, hy, ey⟩ := (sp_aim_ne w hc hs z).1; rw [ey] at h231; exact nI_pos (by omega) h231)
          exact gl_vret (pc := 269) C dL_goes_269 (congrArg (fun z => en z n) (by unfold sp_stop; rw [if_neg hs, if_pos ha]))
        · skip
          have ha : ¬ sp_aim S (nI c) (S (iC c 3)) n = -9 := fun z => h231 (by rw [z]; decide)
          refine gl_aload_1 (pc := 234) C dL_goes_234 ?_
          refine gl_iload_5 (pc := 235) C dL_goes_235 ?_
          refine gl_iconst (pc := 237) (nI 3) C dL_goes_237 (by decide) ?_
          first | with_reducible refine gl_iaddN (pc := 238) C dL_goes_238 ?_ | refine gl_iadd (pc := 238) C dL_goes_238 ?_
          refine gl_dup2 (pc := 239) C dL_goes_239 ?_
          refine gl_iald (pc := 240) _ C dL_goes_240 rfl rfl (by omega) ?_
          refine gl_top (en_C (w := 3) (by omega) (by omega)) ?_
          refine gl_iload_8 (pc := 241) C dL_goes_241 ?_
          refine gl_aload_1 (pc := 243) C dL_goes_243 ?_
          refine gl_iload_5 (pc := 244) C dL_goes_244 ?_
          refine gl_iconst (pc := 246) (nI 3) C dL_goes_246 (by decide) ?_
          first | with_reducible refine gl_iaddN (pc := 247) C dL_goes_247 ?_ | refine gl_iadd (pc := 247) C dL_goes_247 ?_
          refine gl_iald (pc := 248) _ C dL_goes_248 rfl rfl (by omega) ?_
          refine gl_top (en_C (w := 3) (by omega) (by omega)) ?_
          refine gl_icmp_le (pc := 249) 256 C dL_goes_249 (by decide) (fun h249 => ?_) (fun h249 => ?_)
          · skip
            refine gl_iconst (pc := 256) (-1) C dL_goes_256 (by decide) ?_
            first | with_reducible refine gl_iaddN (pc := 257) C dL_goes_257 ?_ | refine gl_iadd (pc := 257) C dL_goes_257 ?_
            refine gl_iast (pc := 258) _ C dL_goes_258 rfl rfl (by omega) ?_
            refine gl_mem (en_uC (w := 3) (by omega) (by omega)) ?_
            refine gl_aload_1 (pc := 259) C dL_goes_259 ?_
            refine gl_iload_5 (pc := 260) C dL_goes_260 ?_
            refine gl_iconst (pc := 262) (nI 5) C dL_goes_262 (by decide) ?_
            first | with_reducible refine gl_iaddN (pc := 263) C dL_goes_263 ?_ | refine gl_iadd (pc := 263) C dL_goes_263 ?_
            refine gl_dup2 (pc := 264) C dL_goes_264 ?_
            refine gl_iald (pc := 265) _ C dL_goes_265 rfl rfl (by omega) ?_
            refine gl_top ((en_C (w := 5) (by omega) (by omega)).trans (rC (by omega) (by omega) (by omega))) ?_
            refine gl_iconst (pc := 266) (nI 1) C dL_goes_266 (by decide) ?_
            first | with_reducible refine gl_iaddN (pc := 267) C dL_goes_267 ?_ | refine gl_iadd (pc := 267) C dL_goes_267 ?_
            refine gl_iast (pc := 268) _ C dL_goes_268 rfl rfl (by omega) ?_
            refine gl_mem (en_uC (w := 5) (by omega) (by omega)) ?_
            exact gl_vret (pc := 269) C dL_goes_269 (congrArg (fun z => en z n) (by unfold sp_stop sp_trav; rw [if_neg hs, if_neg ha]; first | rw [if_pos h249] | rw [if_neg h249]))
          · skip
            refine gl_iconst (pc := 252) (nI 1) C dL_goes_252 (by decide) ?_
            refine gl_goto (pc := 253) 257 C dL_goes_253 (by decide) ?_
            first | with_reducible refine gl_iaddN (pc := 257) C dL_goes_257 ?_ | refine gl_iadd (pc := 257) C dL_goes_257 ?_
            refine gl_iast (pc := 258) _ C dL_goes_258 rfl rfl (by omega) ?_
            refine gl_mem (en_uC (w := 3) (by omega) (by omega)) ?_
            refine gl_aload_1 (pc := 259) C dL_goes_259 ?_
            refine gl_iload_5 (pc := 260) C dL_goes_260 ?_
            refine gl_iconst (pc := 262) (nI 5) C dL_goes_262 (by decide) ?_
            first | with_reducible refine gl_iaddN (pc := 263) C dL_goes_263 ?_ | refine gl_iadd (pc := 263) C dL_goes_263 ?_
            refine gl_dup2 (pc := 264) C dL_goes_264 ?_
            refine gl_iald (pc := 265) _ C dL_goes_265 rfl rfl (by omega) ?_
            refine gl_top ((en_C (w := 5) (by omega) (by omega)).trans (rC (by omega) (by omega) (by omega))) ?_
            refine gl_iconst (pc := 266) (nI 1) C dL_goes_266 (by decide) ?_
            first | with_reducible refine gl_iaddN (pc := 267) C dL_goes_267 ?_ | refine gl_iadd (pc := 267) C dL_goes_267 ?_
            refine gl_iast (pc := 268) _ C dL_goes_268 rfl rfl (by omega) ?_
            refine gl_mem (en_uC (w := 5) (by omega) (by omega)) ?_
            exact gl_vret (pc := 269) C dL_goes_269 (congrArg (fun z => en z n) (by unfold sp_stop sp_trav; rw [if_neg hs, if_neg ha]; first | rw [if_pos h249] | rw [if_neg h249]))
      · skip
        have hs : sp_isStop S (nI c) (S (iC c 3)) (S (iC c 2)) n := Classical.byContradiction (fun z => h216 (by have := (sp_two_no (tk := (nI t)) z).2; unfold sp_twon at this; rw [show sp_takn (sp_outs S (nI c) (S (iC c 3)) (nI t) n) (nI c) (S (iC c 3)) (S (iC c 2)) (nI t) n n + sp_outn S (nI c) (S (iC c 3)) (nI t) n = 0 by omega]; decide))
        refine gl_aload_0 (pc := 219) C dL_goes_219 ?_
        refine gl_iconst (pc := 220) (nI 3) C dL_goes_220 (by decide) ?_
        refine gl_dup2 (pc := 221) C dL_goes_221 ?_
        refine gl_iald (pc := 222) _ C dL_goes_222 rfl rfl (by omega) ?_
        refine gl_top (en_i (by omega)) ?_
        refine gl_iconst (pc := 223) (nI 1) C dL_goes_223 (by decide) ?_
        first | with_reducible refine gl_iaddN (pc := 224) C dL_goes_224 ?_ | refine gl_iadd (pc := 224) C dL_goes_224 ?_
        refine gl_iast (pc := 225) _ C dL_goes_225 rfl rfl (by omega) ?_
        refine gl_mem (en_ui (by omega)) ?_
        refine gl_goto (pc := 226) 269 C dL_goes_226 (by decide) ?_
        exact gl_vret (pc := 269) C dL_goes_269 (congrArg (fun z => en z n) (by unfold sp_stop; rw [if_pos hs]; rfl))
    · skip
      have wk := sp_tak_W wn (c := (nI c)) (fl := (S (iC c 3))) (pl := (S (iC c 2))) (tk := (nI t)) k (Nat.le_of_lt hk)
      have qq := q_tak qn ht31 (cc := (nI c)) (fl := (S (iC c 3))) (pl := (S (iC c 2))) k (Nat.le_of_lt hk)
      have qk := qq.2 k hk
      have enk := wk.2.2.1
      have hfr := sp_free' (M := (sp_outs S (nI c) (S (iC c 3)) (nI t) n)) (c := (nI c)) (fl := (S (iC c 3))) (pl := (S (iC c 2))) (tk := (nI t)) (k := k) hn40 hp8 ep (Nat.le_of_lt hk)
      refine gl_iload_10 (pc := 128) C dL_goes_128 ?_
      refine gl_aload_0 (pc := 130) C dL_goes_130 ?_
      refine gl_iconst (pc := 131) (nI 2) C dL_goes_131 (by decide) ?_
      refine gl_iald (pc := 132) _ C dL_goes_132 rfl rfl (by omega) ?_
      refine gl_top ((en_i (by omega)).trans enk) ?_
      refine gl_icmp_ge (pc := 133) 211 C dL_goes_133 (by decide) (fun h133 => absurd h133 (nI_ge hk (by omega))) (fun h133 => ?_)
      refine gl_aload_2 (pc := 136) C dL_goes_136 ?_
      refine gl_iload_10 (pc := 137) C dL_goes_137 ?_
      refine gl_lald (pc := 139) _ C dL_goes_139 rfl rfl (by omega) ?_
      refine gl_topl (en_c (by omega) hk) ?_
      refine gl_callSi (pc := 140) (ctL_by V.1 LA ok_LA _ q.1 qk) C dL_goes_140 gL_goes_L_by rfl hdL_by ⟨rfl, rfl, Nat.le_of_ble_eq_true rfl, Nat.le_of_ble_eq_true rfl⟩ rfl (Nat.le_of_ble_eq_true rfl) rfl ?_
      refine gl_iload_4 (pc := 143) C dL_goes_143 ?_
      refine gl_icmp_ne (pc := 145) 205 C dL_goes_145 (by decide) (fun h145 => ?_) (fun h145 => ?_)
      · skip
        replace h145 := fun z => h145 ((qby_c qk (by omega)).mpr z)
        first | with_reducible refine gl_iincN_10 (pc := 205) gl_i1 C dL_goes_205 ?_ | refine gl_iinc_10 (pc := 205) C dL_goes_205 (gl_inc1 _) ?_
        refine gl_goto (pc := 208) 128 C dL_goes_208 (by decide) ?_
        exact gl_on (ih (trivial)) (gl_le_c (rfl) (gl_le_c (rfl) (gl_le_c (rfl) (gl_le_c (rfl) (gl_le_c (rfl) (gl_le_c (rfl) (gl_le_c (rfl) (gl_le_c (congrArg Value.int (by simp only [sp_takn]; exact congrArg nI (Eq.symm (by first | exact if_neg (fun z => h145 z.1.2) | exact if_neg (fun z => h156 z.1.1) | exact if_neg (fun z => h172 z.2.1) | exact if_neg (fun z => z.2.2 hfull))))) (gl_le_c (rfl) (gl_le_c (rfl) (gl_le_c (rfl) (gl_le_n)))))))))))) (by simp only [sp_tak]; exact congrArg (fun z => en z n) (Eq.symm (by first | exact if_neg (fun z => h145 z.1.2) | exact if_neg (fun z => h156 z.1.1) | exact if_neg (fun z => h172 z.2.1) | exact if_neg (fun z => z.2.2 hfull))))
      · skip
        replace h145 := (qby_c qk (by omega)).mp h145
        refine gl_aload_2 (pc := 148) C dL_goes_148 ?_
        refine gl_iload_10 (pc := 149) C dL_goes_149 ?_
        refine gl_lald (pc := 151) _ C dL_goes_151 rfl rfl (by omega) ?_
        refine gl_topl (en_c (by omega) hk) ?_
        refine gl_callSi (pc := 152) (ctL_is V.1 LA ok_LA _ q.1 qk) C dL_goes_152 gL_goes_L_is rfl hdL_is ⟨rfl, rfl, Nat.le_of_ble_eq_true rfl, Nat.le_of_ble_eq_true rfl⟩ rfl (Nat.le_of_ble_eq_true rfl) rfl ?_
        refine gl_iconst (pc := 155) (nI 1) C dL_goes_155 (by decide) ?_
        refine gl_icmp_ne (pc := 156) 205 C dL_goes_156 (by decide) (fun h156 => ?_) (fun h156 => ?_)
        · skip
          first | with_reducible refine gl_iincN_10 (pc := 205) gl_i1 C dL_goes_205 ?_ | refine gl_iinc_10 (pc := 205) C dL_goes_205 (gl_inc1 _) ?_
          refine gl_goto (pc := 208) 128 C dL_goes_208 (by decide) ?_
          exact gl_on (ih (trivial)) (gl_le_c (rfl) (gl_le_c (rfl) (gl_le_c (rfl) (gl_le_c (rfl) (gl_le_c (rfl) (gl_le_c (rfl) (gl_le_c (rfl) (gl_le_c (congrArg Value.int (by simp only [sp_takn]; exact congrArg nI (Eq.symm (by first | exact if_neg (fun z => h145 z.1.2) | exact if_neg (fun z => h156 z.1.1) | exact if_neg (fun z => h172 z.2.1) | exact if_neg (fun z => z.2.2 hfull))))) (gl_le_c (rfl) (gl_le_c (rfl) (gl_le_c (rfl) (gl_le_n)))))))))))) (by simp only [sp_tak]; exact congrArg (fun z => en z n) (Eq.symm (by first | exact if_neg (fun z => h145 z.1.2) | exact if_neg (fun z => h156 z.1.1) | exact if_neg (fun z => h172 z.2.1) | exact if_neg (fun z => z.2.2 hfull))))
        · skip
          refine gl_aload_2 (pc := 159) C dL_goes_159 ?_
          refine gl_iload_10 (pc := 160) C dL_goes_160 ?_
          refine gl_lald (pc := 162) _ C dL_goes_162 rfl rfl (by omega) ?_
          refine gl_topl (en_c (by omega) hk) ?_
          refine gl_callSi (pc := 163) (ctL_floor V.1 LA ok_LA _ q.1 qk) C dL_goes_163 gL_goes_L_floor rfl hdL_floor ⟨rfl, rfl, Nat.le_of_ble_eq_true rfl, Nat.le_of_ble_eq_true rfl⟩ rfl (Nat.le_of_ble_eq_true rfl) rfl ?_
          refine gl_aload_1 (pc := 166) C dL_goes_166 ?_
          refine gl_iload_5 (pc := 167) C dL_goes_167 ?_
          refine gl_iconst (pc := 169) (nI 3) C dL_goes_169 (by decide) ?_
          first | with_reducible refine gl_iaddN (pc := 170) C dL_goes_170 ?_ | refine gl_iadd (pc := 170) C dL_goes_170 ?_
          refine gl_iald (pc := 171) _ C dL_goes_171 rfl rfl (by omega) ?_
          refine gl_top ((en_C (w := 3) (by omega) (by omega)).trans ((sp_tak_o (M := (sp_outs S (nI c) (S (iC c 3)) (nI t) n)) (c := (nI c)) (fl := (S (iC c 3))) (pl := (S (iC c 2))) (tk := (nI t)) (n := n) (fun j => ⟨iCK (by omega) (by omega), iCK (by omega) (by omega)⟩) k).trans (sp_outs_o (M := S) (c := (nI c)) (fl := (S (iC c 3))) (tk := (nI t)) (fun j => ⟨iCK (by omega) (by omega), iCK (by omega) (by omega)⟩) n))) ?_
          refine gl_icmp_ne (pc := 172) 205 C dL_goes_172 (by decide) (fun h172 => ?_) (fun h172 => ?_)
          · skip
            first | with_reducible refine gl_iincN_10 (pc := 205) gl_i1 C dL_goes_205 ?_ | refine gl_iinc_10 (pc := 205) C dL_goes_205 (gl_inc1 _) ?_
            refine gl_goto (pc := 208) 128 C dL_goes_208 (by decide) ?_
            exact gl_on (ih (trivial)) (gl_le_c (rfl) (gl_le_c (rfl) (gl_le_c (rfl) (gl_le_c (rfl) (gl_le_c (rfl) (gl_le_c (rfl) (gl_le_c (rfl) (gl_le_c (congrArg Value.int (by simp only [sp_takn]; exact congrArg nI (Eq.symm (by first | exact if_neg (fun z => h145 z.1.2) | exact if_neg (fun z => h156 z.1.1) | exact if_neg (fun z => h172 z.2.1) | exact if_neg (fun z => z.2.2 hfull))))) (gl_le_c (rfl) (gl_le_c (rfl) (gl_le_c (rfl) (gl_le_n)))))))))))) (by simp only [sp_tak]; exact congrArg (fun z => en z n) (Eq.symm (by first | exact if_neg (fun z => h145 z.1.2) | exact if_neg (fun z => h156 z.1.1) | exact if_neg (fun z => h172 z.2.1) | exact if_neg (fun z => z.2.2 hfull))))
          · skip
            refine gl_iload_7 (pc := 175) C dL_goes_175 ?_
            refine gl_iload_9 (pc := 177) C dL_goes_177 ?_
            refine gl_icmp_ge (pc := 179) 205 C dL_goes_179 (by decide) (fun h179 => ?_) (fun h179 => ?_)
            · skip
              have hfull := hfr.mp h179
              first | with_reducible refine gl_iincN_10 (pc := 205) gl_i1 C dL_goes_205 ?_ | refine gl_iinc_10 (pc := 205) C dL_goes_205 (gl_inc1 _) ?_
              refine gl_goto (pc := 208) 128 C dL_goes_208 (by decide) ?_
              exact gl_on (ih (trivial)) (gl_le_c (rfl) (gl_le_c (rfl) (gl_le_c (rfl) (gl_le_c (rfl) (gl_le_c (rfl) (gl_le_c (rfl) (gl_le_c (rfl) (gl_le_c (congrArg Value.int (by simp only [sp_takn]; exact congrArg nI (Eq.symm (by first | exact if_neg (fun z => h145 z.1.2) | exact if_neg (fun z => h156 z.1.1) | exact if_neg (fun z => h172 z.2.1) | exact if_neg (fun z => z.2.2 hfull))))) (gl_le_c (rfl) (gl_le_c (rfl) (gl_le_c (rfl) (gl_le_n)))))))))))) (by simp only [sp_tak]; exact congrArg (fun z => en z n) (Eq.symm (by first | exact if_neg (fun z => h145 z.1.2) | exact if_neg (fun z => h156 z.1.1) | exact if_neg (fun z => h172 z.2.1) | exact if_neg (fun z => z.2.2 hfull))))
            · skip
              have hfull := fun z => h179 (hfr.mpr z)
              refine gl_aload_2 (pc := 182) C dL_goes_182 ?_
              refine gl_iload_10 (pc := 183) C dL_goes_183 ?_
              refine gl_dup2 (pc := 185) C dL_goes_185 ?_
              refine gl_lald (pc := 186) _ C dL_goes_186 rfl rfl (by omega) ?_
              refine gl_topl (en_c (by omega) hk) ?_
              refine gl_ldc2 (pc := 187) (256) C dL_goes_187 (by decide +kernel) ?_
              refine gl_ladd (pc := 190) C dL_goes_190 ?_
              refine gl_last (pc := 191) _ C dL_goes_191 rfl rfl (by omega) ?_
              have q6 := qk_6 qk (by rw [h156]; decide)
              refine gl_mem (lg_ph_mem q.1 hk hn40 qk (s := 1) (by omega) h156) ?_
              refine gl_aload_3 (pc := 192) C dL_goes_192 ?_
              refine gl_iload_10 (pc := 193) C dL_goes_193 ?_
              refine gl_aload_0 (pc := 195) C dL_goes_195 ?_
              refine gl_iconst (pc := 196) (nI 0) C dL_goes_196 (by decide) ?_
              refine gl_iald (pc := 197) _ C dL_goes_197 rfl rfl (by omega) ?_
              refine gl_top ((en_i (by omega)).trans ((gl_upd_ne (by unfold iK; omega)).trans wk.2.2.2.2.1)) ?_
              refine gl_i2l (pc := 198) C dL_goes_198 ?_
              refine gl_lconst (pc := 199) (1) C dL_goes_199 (by decide) ?_
              refine gl_ladd (pc := 200) C dL_goes_200 ?_
              refine gl_last (pc := 201) _ C dL_goes_201 rfl rfl (by omega) ?_
              refine gl_mem (lg_x_mem hk hn40 ((rK (by omega) (by omega) (by omega)).trans q6) ht31) ?_
              first | with_reducible refine gl_iincN_7 (pc := 202) gl_i1 C dL_goes_202 ?_ | refine gl_iinc_7 (pc := 202) C dL_goes_202 (gl_inc1 _) ?_
              first | with_reducible refine gl_iincN_10 (pc := 205) gl_i1 C dL_goes_205 ?_ | refine gl_iinc_10 (pc := 205) C dL_goes_205 (gl_inc1 _) ?_
              refine gl_goto (pc := 208) 128 C dL_goes_208 (by decide) ?_
              exact gl_on (ih (trivial)) (gl_le_c (rfl) (gl_le_c (rfl) (gl_le_c (rfl) (gl_le_c (rfl) (gl_le_c (rfl) (gl_le_c (rfl) (gl_le_c (rfl) (gl_le_c (congrArg Value.int (by simp only [sp_takn]; rw [if_pos ⟨⟨h156, h145⟩, h172, hfull⟩])) (gl_le_c (rfl) (gl_le_c (rfl) (gl_le_c (rfl) (gl_le_n)))))))))))) (by simp only [sp_tak]; rw [if_pos ⟨⟨h156, h145⟩, h172, hfull⟩])
  · skip
    have wk := sp_outs_W w (c := (nI c)) (fl := (S (iC c 3))) (tk := (nI t)) k (Nat.le_of_lt hk)
    have qq := q_outs q ht31 (cc := (nI c)) (fl := (S (iC c 3))) k (Nat.le_of_lt hk)
    have qk := qq.2 k hk
    have enk := wk.2.2.1
    refine gl_iload_9 (pc := 26) C dL_goes_26 ?_
    refine gl_aload_0 (pc := 28) C dL_goes_28 ?_
    refine gl_iconst (pc := 29) (nI 2) C dL_goes_29 (by decide) ?_
    refine gl_iald (pc := 30) _ C dL_goes_30 rfl rfl (by omega) ?_
    refine gl_top ((en_i (by omega)).trans enk) ?_
    refine gl_icmp_ge (pc := 31) 108 C dL_goes_31 (by decide) (fun h31 => absurd h31 (nI_ge hk (by omega))) (fun h31 => ?_)
    refine gl_aload_2 (pc := 34) C dL_goes_34 ?_
    refine gl_iload_9 (pc := 35) C dL_goes_35 ?_
    refine gl_lald (pc := 37) _ C dL_goes_37 rfl rfl (by omega) ?_
    refine gl_topl (en_c (by omega) hk) ?_
    refine gl_callSi (pc := 38) (ctL_by V.1 LA ok_LA _ q.1 qk) C dL_goes_38 gL_goes_L_by rfl hdL_by ⟨rfl, rfl, Nat.le_of_ble_eq_true rfl, Nat.le_of_ble_eq_true rfl⟩ rfl (Nat.le_of_ble_eq_true rfl) rfl ?_
    refine gl_iload_4 (pc := 41) C dL_goes_41 ?_
    refine gl_icmp_ne (pc := 43) 102 C dL_goes_43 (by decide) (fun h43 => ?_) (fun h43 => ?_)
    · skip
      replace h43 := fun z => h43 ((qby_c qk (by omega)).mpr z)
      first | with_reducible refine gl_iincN_9 (pc := 102) gl_i1 C dL_goes_102 ?_ | refine gl_iinc_9 (pc := 102) C dL_goes_102 (gl_inc1 _) ?_
      refine gl_goto (pc := 105) 26 C dL_goes_105 (by decide) ?_
      exact gl_on (ih (trivial)) (gl_le_c (rfl) (gl_le_c (rfl) (gl_le_c (rfl) (gl_le_c (rfl) (gl_le_c (rfl) (gl_le_c (rfl) (gl_le_c (congrArg Value.int (by simp only [sp_outn]; exact congrArg nI (Eq.symm (by first | exact if_neg (fun z => h43 z.1.2) | exact if_neg (fun z => h54 z.1.1) | exact if_neg (fun z => h70 z.2))))) (gl_le_c (rfl) (gl_le_c (rfl) (gl_le_c (rfl) (gl_le_o (gl_le_n)))))))))))) (by simp only [sp_outs]; exact congrArg (fun z => en z n) (Eq.symm (by first | exact if_neg (fun z => h43 z.1.2) | exact if_neg (fun z => h54 z.1.1) | exact if_neg (fun z => h70 z.2))))
    · skip
      replace h43 := (qby_c qk (by omega)).mp h43
      refine gl_aload_2 (pc := 46) C dL_goes_46 ?_
      refine gl_iload_9 (pc := 47) C dL_goes_47 ?_
      refine gl_lald (pc := 49) _ C dL_goes_49 rfl rfl (by omega) ?_
      refine gl_topl (en_c (by omega) hk) ?_
      refine gl_callSi (pc := 50) (ctL_is V.1 LA ok_LA _ q.1 qk) C dL_goes_50 gL_goes_L_is rfl hdL_is ⟨rfl, rfl, Nat.le_of_ble_eq_true rfl, Nat.le_of_ble_eq_true rfl⟩ rfl (Nat.le_of_ble_eq_true rfl) rfl ?_
      refine gl_iconst (pc := 53) (nI 2) C dL_goes_53 (by decide) ?_
      refine gl_icmp_ne (pc := 54) 102 C dL_goes_54 (by decide) (fun h54 => ?_) (fun h54 => ?_)
      · skip
        first | with_reducible refine gl_iincN_9 (pc := 102) gl_i1 C dL_goes_102 ?_ | refine gl_iinc_9 (pc := 102) C dL_goes_102 (gl_inc1 _) ?_
        refine gl_goto (pc := 105) 26 C dL_goes_105 (by decide) ?_
        exact gl_on (ih (trivial)) (gl_le_c (rfl) (gl_le_c (rfl) (gl_le_c (rfl) (gl_le_c (rfl) (gl_le_c (rfl) (gl_le_c (rfl) (gl_le_c (congrArg Value.int (by simp only [sp_outn]; exact congrArg nI (Eq.symm (by first | exact if_neg (fun z => h43 z.1.2) | exact if_neg (fun z => h54 z.1.1) | exact if_neg (fun z => h70 z.2))))) (gl_le_c (rfl) (gl_le_c (rfl) (gl_le_c (rfl) (gl_le_o (gl_le_n)))))))))))) (by simp only [sp_outs]; exact congrArg (fun z => en z n) (Eq.symm (by first | exact if_neg (fun z => h43 z.1.2) | exact if_neg (fun z => h54 z.1.1) | exact if_neg (fun z => h70 z.2))))
      · skip
        refine gl_aload_2 (pc := 57) C dL_goes_57 ?_
        refine gl_iload_9 (pc := 58) C dL_goes_58 ?_
        refine gl_lald (pc := 60) _ C dL_goes_60 rfl rfl (by omega) ?_
        refine gl_topl (en_c (by omega) hk) ?_
        refine gl_callSi (pc := 61) (ctL_goal V.1 LA ok_LA _ q.1 qk) C dL_goes_61 gL_goes_L_goal rfl hdL_goal ⟨rfl, rfl, Nat.le_of_ble_eq_true rfl, Nat.le_of_ble_eq_true rfl⟩ rfl (Nat.le_of_ble_eq_true rfl) rfl ?_
        refine gl_aload_1 (pc := 64) C dL_goes_64 ?_
        refine gl_iload_5 (pc := 65) C dL_goes_65 ?_
        refine gl_iconst (pc := 67) (nI 3) C dL_goes_67 (by decide) ?_
        first | with_reducible refine gl_iaddN (pc := 68) C dL_goes_68 ?_ | refine gl_iadd (pc := 68) C dL_goes_68 ?_
        refine gl_iald (pc := 69) _ C dL_goes_69 rfl rfl (by omega) ?_
        refine gl_top ((en_C (w := 3) (by omega) (by omega)).trans (sp_outs_o (M := S) (c := (nI c)) (fl := (S (iC c 3))) (tk := (nI t)) (fun j => ⟨iCK (by omega) (by omega), iCK (by omega) (by omega)⟩) k)) ?_
        refine gl_icmp_ne (pc := 70) 102 C dL_goes_70 (by decide) (fun h70 => ?_) (fun h70 => ?_)
        · skip
          first | with_reducible refine gl_iincN_9 (pc := 102) gl_i1 C dL_goes_102 ?_ | refine gl_iinc_9 (pc := 102) C dL_goes_102 (gl_inc1 _) ?_
          refine gl_goto (pc := 105) 26 C dL_goes_105 (by decide) ?_
          exact gl_on (ih (trivial)) (gl_le_c (rfl) (gl_le_c (rfl) (gl_le_c (rfl) (gl_le_c (rfl) (gl_le_c (rfl) (gl_le_c (rfl) (gl_le_c (congrArg Value.int (by simp only [sp_outn]; exact congrArg nI (Eq.symm (by first | exact if_neg (fun z => h43 z.1.2) | exact if_neg (fun z => h54 z.1.1) | exact if_neg (fun z => h70 z.2))))) (gl_le_c (rfl) (gl_le_c (rfl) (gl_le_c (rfl) (gl_le_o (gl_le_n)))))))))))) (by simp only [sp_outs]; exact congrArg (fun z => en z n) (Eq.symm (by first | exact if_neg (fun z => h43 z.1.2) | exact if_neg (fun z => h54 z.1.1) | exact if_neg (fun z => h70 z.2))))
        · skip
          refine gl_aload_2 (pc := 73) C dL_goes_73 ?_
          refine gl_iload_9 (pc := 74) C dL_goes_74 ?_
          refine gl_dup2 (pc := 76) C dL_goes_76 ?_
          refine gl_lald (pc := 77) _ C dL_goes_77 rfl rfl (by omega) ?_
          refine gl_topl (en_c (by omega) hk) ?_
          refine gl_ldc2 (pc := 78) (256) C dL_goes_78 (by decide +kernel) ?_
          refine gl_ladd (pc := 81) C dL_goes_81 ?_
          refine gl_last (pc := 82) _ C dL_goes_82 rfl rfl (by omega) ?_
          have q6 := qk_6 qk (by rw [h54]; decide)
          refine gl_mem (lg_ph_mem q.1 hk hn40 qk (s := 2) (by omega) h54) ?_
          refine gl_aload_3 (pc := 83) C dL_goes_83 ?_
          refine gl_iload_9 (pc := 84) C dL_goes_84 ?_
          refine gl_dup2 (pc := 86) C dL_goes_86 ?_
          refine gl_lald (pc := 87) _ C dL_goes_87 rfl rfl (by omega) ?_
          refine gl_topl (en_r (by omega) hk) ?_
          refine gl_aload_0 (pc := 88) C dL_goes_88 ?_
          refine gl_iconst (pc := 89) (nI 0) C dL_goes_89 (by decide) ?_
          refine gl_iald (pc := 90) _ C dL_goes_90 rfl rfl (by omega) ?_
          refine gl_top ((en_i (by omega)).trans ((gl_upd_ne (by unfold iK; omega)).trans wk.2.2.2.2.1)) ?_
          refine gl_i2l (pc := 91) C dL_goes_91 ?_
          refine gl_lconst (pc := 92) (1) C dL_goes_92 (by decide) ?_
          refine gl_ladd (pc := 93) C dL_goes_93 ?_
          refine gl_bipush (pc := 94) (nI 20) C dL_goes_94 (by decide +kernel) ?_
          refine gl_lshl (pc := 96) C dL_goes_96 ?_
          refine gl_ladd (pc := 97) C dL_goes_97 ?_
          refine gl_last (pc := 98) _ C dL_goes_98 rfl rfl (by omega) ?_
          refine gl_mem (lg_y_mem q.1 hk hn40 (qk_ph qk (s := 2) (by omega) (by omega) h54) ((rK (by omega) (by omega) (by omega)).trans q6) ht31) ?_
          first | with_reducible refine gl_iincN_6 (pc := 99) gl_i1 C dL_goes_99 ?_ | refine gl_iinc_6 (pc := 99) C dL_goes_99 (gl_inc1 _) ?_
          first | with_reducible refine gl_iincN_9 (pc := 102) gl_i1 C dL_goes_102 ?_ | refine gl_iinc_9 (pc := 102) C dL_goes_102 (gl_inc1 _) ?_
          refine gl_goto (pc := 105) 26 C dL_goes_105 (by decide) ?_
          exact gl_on (ih (trivial)) (gl_le_c (rfl) (gl_le_c (rfl) (gl_le_c (rfl) (gl_le_c (rfl) (gl_le_c (rfl) (gl_le_c (rfl) (gl_le_c (congrArg Value.int (by simp only [sp_outn]; rw [if_pos ⟨⟨h54, h43⟩, h70⟩])) (gl_le_c (rfl) (gl_le_c (rfl) (gl_le_c (rfl) (gl_le_o (gl_le_n)))))))))))) (by simp only [sp_outs]; rw [if_pos ⟨⟨h54, h43⟩, h70⟩])
set_option maxRecDepth 100000 in
set_option maxHeartbeats 4000000 in
theorem ctL_tick (F : gl_F) {n m t A : Nat} {S : Nat → Int32} (w : sp_W n m t S) (ht31 : t < 1048575) (q : qW S A n) : gl_Ct F LA yL_tick wsL_tick rmL_tick [.ref (gl_r F 0), .ref (gl_r F 1), .ref (gl_r F 2), .ref (gl_r F 3), .ref (gl_r F 4)] (en S n) (none) ((en (sp_tick S t n m) n)) := by
  refine gl_met (cc := cL_tick) (maxL := 6) (ret := none) [some (.ref (gl_r F 0)), some (.ref (gl_r F 1)), some (.ref (gl_r F 2)), some (.ref (gl_r F 3)), some (.ref (gl_r F 4)), none] (plainFor_of_name (by decide)) rfl ok_LA (by simp [Value.category]) (Nat.le_of_ble_eq_true rfl) rfl (fun V hV C => ?_)
  subst hV
  obtain ⟨hn40, hm5, hn, hm, ht, hcar, hcal⟩ := id w
  refine gl_iconst (pc := 0) (nI 0) C dL_tick_0 (by decide) ?_
  refine gl_istore_5 (pc := 1) C dL_tick_1 ?_
  refine gl_loop (pc := 3) (n := n) (fun k => [some (.ref (gl_r V.1 0)), some (.ref (gl_r V.1 1)), some (.ref (gl_r V.1 2)), some (.ref (gl_r V.1 3)), some (.ref (gl_r V.1 4)), some (.int (nI k))]) (fun k => (en (sp_look S t n m k) n)) (fun k => True) 0 (Nat.zero_le _) (trivial) (gl_le_c (rfl) (gl_le_c (rfl) (gl_le_c (rfl) (gl_le_c (rfl) (gl_le_c (rfl) (gl_le_c (rfl) (gl_le_n))))))) (rfl) (fun hI => ?_) (fun k hk hI ih => ?_)
  · skip
    have wn := sp_look_W w n (Nat.le_refl _)
    have qn := q_look (t := t) q hm5 n (Nat.le_refl _)
    have enk := wn.2.2.1
    refine gl_iload_5 (pc := 3) C dL_tick_3 ?_
    refine gl_aload_0 (pc := 5) C dL_tick_5 ?_
    refine gl_iconst (pc := 6) (nI 2) C dL_tick_6 (by decide) ?_
    refine gl_iald (pc := 7) _ C dL_tick_7 rfl rfl (by omega) ?_
    refine gl_top ((en_i (by omega)).trans enk) ?_
    refine gl_icmp_ge (pc := 8) 36 C dL_tick_8 (by decide) (fun h8 => ?_) (fun h8 => absurd h8 (gl_xge))
    refine gl_iconst (pc := 36) (nI 0) C dL_tick_36 (by decide) ?_
    refine gl_istore_5 (pc := 37) C dL_tick_37 ?_
    refine gl_loop (pc := 39) (n := m) (fun c => [some (.ref (gl_r V.1 0)), some (.ref (gl_r V.1 1)), some (.ref (gl_r V.1 2)), some (.ref (gl_r V.1 3)), some (.ref (gl_r V.1 4)), some (.int (nI c))]) (fun c => (en (sp_cars (sp_look S t n m n) t n c) n)) (fun c => True) 0 (Nat.zero_le _) (trivial) (gl_le_c (rfl) (gl_le_c (rfl) (gl_le_c (rfl) (gl_le_c (rfl) (gl_le_c (rfl) (gl_le_c (rfl) (gl_le_n))))))) (rfl) (fun hI => ?_) (fun c hc hI ih => ?_)
    · skip
      have wc := sp_cars_W wn m (Nat.le_refl _)
      have emc := wc.2.2.2.1
      refine gl_iload_5 (pc := 39) C dL_tick_39 ?_
      refine gl_aload_0 (pc := 41) C dL_tick_41 ?_
      refine gl_iconst (pc := 42) (nI 1) C dL_tick_42 (by decide) ?_
      refine gl_iald (pc := 43) _ C dL_tick_43 rfl rfl (by omega) ?_
      refine gl_top ((en_i (by omega)).trans emc) ?_
      refine gl_icmp_ge (pc := 44) 75 C dL_tick_44 (by decide) (fun h44 => ?_) (fun h44 => absurd h44 (gl_xge))
      refine gl_aload_0 (pc := 75) C dL_tick_75 ?_
      refine gl_iconst (pc := 76) (nI 0) C dL_tick_76 (by decide) ?_
      refine gl_dup2 (pc := 77) C dL_tick_77 ?_
      refine gl_iald (pc := 78) _ C dL_tick_78 rfl rfl (by omega) ?_
      refine gl_top (en_i (by omega)) ?_
      refine gl_iconst (pc := 79) (nI 1) C dL_tick_79 (by decide) ?_
      first | with_reducible refine gl_iaddN (pc := 80) C dL_tick_80 ?_ | refine gl_iadd (pc := 80) C dL_tick_80 ?_
      refine gl_iast (pc := 81) _ C dL_tick_81 rfl rfl (by omega) ?_
      refine gl_mem (en_ui (by omega)) ?_
      exact gl_vret (pc := 82) C dL_tick_82 (rfl)
    · skip
      have wc := sp_cars_W wn c (Nat.le_of_lt hc)
      have qc := q_cars qn ht31 c (by omega)
      have emc := wc.2.2.2.1
      refine gl_iload_5 (pc := 39) C dL_tick_39 ?_
      refine gl_aload_0 (pc := 41) C dL_tick_41 ?_
      refine gl_iconst (pc := 42) (nI 1) C dL_tick_42 (by decide) ?_
      refine gl_iald (pc := 43) _ C dL_tick_43 rfl rfl (by omega) ?_
      refine gl_top ((en_i (by omega)).trans emc) ?_
      refine gl_icmp_ge (pc := 44) 75 C dL_tick_44 (by decide) (fun h44 => absurd h44 (nI_ge hc (by omega))) (fun h44 => ?_)
      refine gl_aload_2 (pc := 47) C dL_tick_47 ?_
      refine gl_bipush (pc := 48) (nI 6) C dL_tick_48 (by decide +kernel) ?_
      refine gl_iload_5 (pc := 50) C dL_tick_50 ?_
      first | with_reducible refine gl_imulN (pc := 52) C dL_tick_52 ?_ | refine gl_imul (pc := 52) C dL_tick_52 ?_
      refine gl_iconst (pc := 53) (nI 4) C dL_tick_53 (by decide) ?_
      first | with_reducible refine gl_iaddN (pc := 54) C dL_tick_54 ?_ | refine gl_iadd (pc := 54) C dL_tick_54 ?_
      refine gl_iald (pc := 55) _ C dL_tick_55 rfl rfl (by omega) ?_
      refine gl_top (en_C (w := 4) (by omega) (by omega)) ?_
      refine gl_ifne (pc := 56) 69 C dL_tick_56 (by decide) (fun h56 => ?_) (fun h56 => ?_)
      · skip
        first | with_reducible refine gl_iincN_5 (pc := 69) gl_i1 C dL_tick_69 ?_ | refine gl_iinc_5 (pc := 69) C dL_tick_69 (gl_inc1 _) ?_
        refine gl_goto (pc := 72) 39 C dL_tick_72 (by decide) ?_
        exact gl_on (ih (trivial)) (gl_le_c (rfl) (gl_le_c (rfl) (gl_le_c (rfl) (gl_le_c (rfl) (gl_le_c (rfl) (gl_le_c (rfl) (gl_le_n))))))) (by simp only [sp_cars]; rw [if_neg h56])
      · skip
        refine gl_aload_0 (pc := 59) C dL_tick_59 ?_
        refine gl_aload_2 (pc := 60) C dL_tick_60 ?_
        refine gl_aload_3 (pc := 61) C dL_tick_61 ?_
        refine gl_aload_4 (pc := 62) C dL_tick_62 ?_
        refine gl_iload_5 (pc := 64) C dL_tick_64 ?_
        refine gl_callSv (pc := 66) (ctL_goes V.1 wc ht31 qc hc) C dL_tick_66 gL_tick_L_goes rfl hdL_goes ⟨rfl, rfl, Nat.le_of_ble_eq_true rfl, Nat.le_of_ble_eq_true rfl⟩ rfl (Nat.le_of_ble_eq_true rfl) rfl ?_
        first | with_reducible refine gl_iincN_5 (pc := 69) gl_i1 C dL_tick_69 ?_ | refine gl_iinc_5 (pc := 69) C dL_tick_69 (gl_inc1 _) ?_
        refine gl_goto (pc := 72) 39 C dL_tick_72 (by decide) ?_
        exact gl_on (ih (trivial)) (gl_le_c (rfl) (gl_le_c (rfl) (gl_le_c (rfl) (gl_le_c (rfl) (gl_le_c (rfl) (gl_le_c (rfl) (gl_le_n))))))) (by simp only [sp_cars]; rw [if_pos h56])
  · skip
    have wk := sp_look_W w k (Nat.le_of_lt hk)
    have qq := q_look (t := t) q hm5 k (Nat.le_of_lt hk)
    have qk := qq.2 k hk
    have enk := wk.2.2.1
    refine gl_iload_5 (pc := 3) C dL_tick_3 ?_
    refine gl_aload_0 (pc := 5) C dL_tick_5 ?_
    refine gl_iconst (pc := 6) (nI 2) C dL_tick_6 (by decide) ?_
    refine gl_iald (pc := 7) _ C dL_tick_7 rfl rfl (by omega) ?_
    refine gl_top ((en_i (by omega)).trans enk) ?_
    refine gl_icmp_ge (pc := 8) 36 C dL_tick_8 (by decide) (fun h8 => absurd h8 (nI_ge hk (by omega))) (fun h8 => ?_)
    refine gl_aload_3 (pc := 11) C dL_tick_11 ?_
    refine gl_iload_5 (pc := 12) C dL_tick_12 ?_
    refine gl_lald (pc := 14) _ C dL_tick_14 rfl rfl (by omega) ?_
    refine gl_topl (en_c (by omega) hk) ?_
    refine gl_callSi (pc := 15) (ctL_is V.1 LA ok_LA _ q.1 qk) C dL_tick_15 gL_tick_L_is rfl hdL_is ⟨rfl, rfl, Nat.le_of_ble_eq_true rfl, Nat.le_of_ble_eq_true rfl⟩ rfl (Nat.le_of_ble_eq_true rfl) rfl ?_
    refine gl_ifne (pc := 18) 30 C dL_tick_18 (by decide) (fun h18 => ?_) (fun h18 => ?_)
    · skip
      first | with_reducible refine gl_iincN_5 (pc := 30) gl_i1 C dL_tick_30 ?_ | refine gl_iinc_5 (pc := 30) C dL_tick_30 (gl_inc1 _) ?_
      refine gl_goto (pc := 33) 3 C dL_tick_33 (by decide) ?_
      exact gl_on (ih (trivial)) (gl_le_c (rfl) (gl_le_c (rfl) (gl_le_c (rfl) (gl_le_c (rfl) (gl_le_c (rfl) (gl_le_c (rfl) (gl_le_n))))))) (by simp only [sp_look]; rw [if_neg h18])
    · skip
      refine gl_aload_0 (pc := 21) C dL_tick_21 ?_
      refine gl_aload_1 (pc := 22) C dL_tick_22 ?_
      refine gl_aload_2 (pc := 23) C dL_tick_23 ?_
      refine gl_aload_3 (pc := 24) C dL_tick_24 ?_
      refine gl_iload_5 (pc := 25) C dL_tick_25 ?_
      refine gl_callSv (pc := 27) (ctL_gives V.1 wk ht31 qq hk h18) C dL_tick_27 gL_tick_L_gives rfl hdL_gives ⟨rfl, rfl, Nat.le_of_ble_eq_true rfl, Nat.le_of_ble_eq_true rfl⟩ rfl (Nat.le_of_ble_eq_true rfl) rfl ?_
      first | with_reducible refine gl_iincN_5 (pc := 30) gl_i1 C dL_tick_30 ?_ | refine gl_iinc_5 (pc := 30) C dL_tick_30 (gl_inc1 _) ?_
      refine gl_goto (pc := 33) 3 C dL_tick_33 (by decide) ?_
      exact gl_on (ih (trivial)) (gl_le_c (rfl) (gl_le_c (rfl) (gl_le_c (rfl) (gl_le_c (rfl) (gl_le_c (rfl) (gl_le_c (rfl) (gl_le_n))))))) (by simp only [sp_look]; rw [if_pos h18])
