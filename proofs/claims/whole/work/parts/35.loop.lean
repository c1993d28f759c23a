def lw_l (V : lw_V) (rc rm : Nat → Nat) (i : Nat) : List (Option Value) := [some (.ref (lw_b V)), some (.ref (rc 126)), some (.ref (rm 0)), some (.int (nI i))]
abbrev lw_w (V : lw_V) (rc rm : Nat → Nat) (G M : Nat → Int32) : va_W := gl_w (gk_F V.1 rc) LC G ++ gl_w (gk_F V.1 rm) LM M
theorem lw_c_116 {V : lw_V} (C : lw_C V) {rc rm : Nat → Nat} {G M : Nat → Int32} {i : Nat} (hi : i + 3 < lw_n V) (h : lw_Inv G M) (k : ∀ G' M', lw_Inv G' M' → lw_G V (lw_w V rc rm G' M') 134 5805 607 (lw_l V rc rm i) []) : lw_G V (lw_w V rc rm G M) 134 5805 116 (lw_l V rc rm i) [] := by
  obtain ⟨v, G', M', c1, c2, h'⟩ := st_addCar (gk_F V.1 rc) (gk_F V.1 rm) h (lw_x V (i + 1)) (lw_x V (i + 2)) (lw_x V (i + 3))
  unfold lw_l at k ⊢
  refine lw_aload_1 (pc := 116) C dL_law_116 ?_
  refine lw_aload_0 (pc := 117) C dL_law_117 ?_
  refine lw_iload_3 (pc := 118) C dL_law_118 ?_
  refine lw_iconst (pc := 119) (nI 1) C dL_law_119 (by decide) ?_
  refine lw_iaddN (pc := 120) C dL_law_120 ?_
  refine lw_sld (pc := 121) (by omega) C dL_law_121 ?_
  refine lw_aload_0 (pc := 122) C dL_law_122 ?_
  refine lw_iload_3 (pc := 123) C dL_law_123 ?_
  refine lw_iconst (pc := 124) (nI 2) C dL_law_124 (by decide) ?_
  refine lw_iaddN (pc := 125) C dL_law_125 ?_
  refine lw_sld (pc := 126) (by omega) C dL_law_126 ?_
  refine lw_aload_0 (pc := 127) C dL_law_127 ?_
  refine lw_iload_3 (pc := 128) C dL_law_128 ?_
  refine lw_iconst (pc := 129) (nI 3) C dL_law_129 (by decide) ?_
  refine lw_iaddN (pc := 130) C dL_law_130 ?_
  refine lw_sld (pc := 131) (by omega) C dL_law_131 ?_
  refine lw_call (pc := 132) (r := rc) (j := 126) (As := [.int (lw_x V (i + 1)), .int (lw_x V (i + 2)), .int (lw_x V (i + 3))]) (rest := []) c1 C dL_law_132 gL_law_X4_addCar rfl hdX4_addCar ⟨rfl, rfl, Nat.le_of_ble_eq_true rfl, Nat.le_of_ble_eq_true rfl⟩ rfl (Nat.le_of_ble_eq_true rfl) rfl rfl rfl ⟨Nat.le_of_ble_eq_true rfl, Nat.le_of_ble_eq_true rfl⟩ ?_
  refine lw_aload_2 (pc := 135) C dL_law_135 ?_
  refine lw_aload_0 (pc := 136) C dL_law_136 ?_
  refine lw_iload_3 (pc := 137) C dL_law_137 ?_
  refine lw_iconst (pc := 138) (nI 1) C dL_law_138 (by decide) ?_
  refine lw_iaddN (pc := 139) C dL_law_139 ?_
  refine lw_sld (pc := 140) (by omega) C dL_law_140 ?_
  refine lw_aload_0 (pc := 141) C dL_law_141 ?_
  refine lw_iload_3 (pc := 142) C dL_law_142 ?_
  refine lw_iconst (pc := 143) (nI 2) C dL_law_143 (by decide) ?_
  refine lw_iaddN (pc := 144) C dL_law_144 ?_
  refine lw_sld (pc := 145) (by omega) C dL_law_145 ?_
  refine lw_aload_0 (pc := 146) C dL_law_146 ?_
  refine lw_iload_3 (pc := 147) C dL_law_147 ?_
  refine lw_iconst (pc := 148) (nI 3) C dL_law_148 (by decide) ?_
  refine lw_iaddN (pc := 149) C dL_law_149 ?_
  refine lw_sld (pc := 150) (by omega) C dL_law_150 ?_
  refine lw_call (pc := 151) (r := rm) (j := 0) (As := [.int (lw_x V (i + 1)), .int (lw_x V (i + 2)), .int (lw_x V (i + 3))]) (rest := [.int v]) c2 C dL_law_151 gL_law_X5_addCar rfl hdX5_addCar ⟨rfl, rfl, Nat.le_of_ble_eq_true rfl, Nat.le_of_ble_eq_true rfl⟩ rfl (Nat.le_of_ble_eq_true rfl) rfl rfl rfl ⟨Nat.le_of_ble_eq_true rfl, Nat.le_of_ble_eq_true rfl⟩ ?_
  exact lw_icmp_same (pc := 154) 607 C dL_law_154 rfl (k G' M' h')
theorem lw_c_159 {V : lw_V} (C : lw_C V) {rc rm : Nat → Nat} {G M : Nat → Int32} {i : Nat} (hi : i + 3 < lw_n V) (h : lw_Inv G M) (k : ∀ G' M', lw_Inv G' M' → lw_G V (lw_w V rc rm G' M') 134 5805 607 (lw_l V rc rm i) []) : lw_G V (lw_w V rc rm G M) 134 5805 159 (lw_l V rc rm i) [] := by
  obtain ⟨v, G', M', c1, c2, h'⟩ := st_setAwake (gk_F V.1 rc) (gk_F V.1 rm) h (lw_x V (i + 1)) (lw_x V (i + 2))
  unfold lw_l at k ⊢
  refine lw_aload_1 (pc := 159) C dL_law_159 ?_
  refine lw_aload_0 (pc := 160) C dL_law_160 ?_
  refine lw_iload_3 (pc := 161) C dL_law_161 ?_
  refine lw_iconst (pc := 162) (nI 1) C dL_law_162 (by decide) ?_
  refine lw_iaddN (pc := 163) C dL_law_163 ?_
  refine lw_sld (pc := 164) (by omega) C dL_law_164 ?_
  refine lw_aload_0 (pc := 165) C dL_law_165 ?_
  refine lw_iload_3 (pc := 166) C dL_law_166 ?_
  refine lw_iconst (pc := 167) (nI 2) C dL_law_167 (by decide) ?_
  refine lw_iaddN (pc := 168) C dL_law_168 ?_
  refine lw_sld (pc := 169) (by omega) C dL_law_169 ?_
  refine lw_call (pc := 170) (r := rc) (j := 126) (As := [.int (lw_x V (i + 1)), .int (lw_x V (i + 2))]) (rest := []) c1 C dL_law_170 gL_law_X4_setAwake rfl hdX4_setAwake ⟨rfl, rfl, Nat.le_of_ble_eq_true rfl, Nat.le_of_ble_eq_true rfl⟩ rfl (Nat.le_of_ble_eq_true rfl) rfl rfl rfl ⟨Nat.le_of_ble_eq_true rfl, Nat.le_of_ble_eq_true rfl⟩ ?_
  refine lw_aload_2 (pc := 173) C dL_law_173 ?_
  refine lw_aload_0 (pc := 174) C dL_law_174 ?_
  refine lw_iload_3 (pc := 175) C dL_law_175 ?_
  refine lw_iconst (pc := 176) (nI 1) C dL_law_176 (by decide) ?_
  refine lw_iaddN (pc := 177) C dL_law_177 ?_
  refine lw_sld (pc := 178) (by omega) C dL_law_178 ?_
  refine lw_aload_0 (pc := 179) C dL_law_179 ?_
  refine lw_iload_3 (pc := 180) C dL_law_180 ?_
  refine lw_iconst (pc := 181) (nI 2) C dL_law_181 (by decide) ?_
  refine lw_iaddN (pc := 182) C dL_law_182 ?_
  refine lw_sld (pc := 183) (by omega) C dL_law_183 ?_
  refine lw_call (pc := 184) (r := rm) (j := 0) (As := [.int (lw_x V (i + 1)), .int (lw_x V (i + 2))]) (rest := [.int v]) c2 C dL_law_184 gL_law_X5_setAwake rfl hdX5_setAwake ⟨rfl, rfl, Nat.le_of_ble_eq_true rfl, Nat.le_of_ble_eq_true rfl⟩ rfl (Nat.le_of_ble_eq_true rfl) rfl rfl rfl ⟨Nat.le_of_ble_eq_true rfl, Nat.le_of_ble_eq_true rfl⟩ ?_
  exact lw_icmp_same (pc := 187) 607 C dL_law_187 rfl (k G' M' h')
theorem lw_c_192 {V : lw_V} (C : lw_C V) {rc rm : Nat → Nat} {G M : Nat → Int32} {i : Nat} (hi : i + 3 < lw_n V) (h : lw_Inv G M) (k : ∀ G' M', lw_Inv G' M' → lw_G V (lw_w V rc rm G' M') 134 5805 607 (lw_l V rc rm i) []) : lw_G V (lw_w V rc rm G M) 134 5805 192 (lw_l V rc rm i) [] := by
  obtain ⟨v, G', M', c1, c2, h'⟩ := st_hold (gk_F V.1 rc) (gk_F V.1 rm) h (lw_x V (i + 1)) (lw_x V (i + 2))
  unfold lw_l at k ⊢
  refine lw_aload_1 (pc := 192) C dL_law_192 ?_
  refine lw_aload_0 (pc := 193) C dL_law_193 ?_
  refine lw_iload_3 (pc := 194) C dL_law_194 ?_
  refine lw_iconst (pc := 195) (nI 1) C dL_law_195 (by decide) ?_
  refine lw_iaddN (pc := 196) C dL_law_196 ?_
  refine lw_sld (pc := 197) (by omega) C dL_law_197 ?_
  refine lw_aload_0 (pc := 198) C dL_law_198 ?_
  refine lw_iload_3 (pc := 199) C dL_law_199 ?_
  refine lw_iconst (pc := 200) (nI 2) C dL_law_200 (by decide) ?_
  refine lw_iaddN (pc := 201) C dL_law_201 ?_
  refine lw_sld (pc := 202) (by omega) C dL_law_202 ?_
  refine lw_call (pc := 203) (r := rc) (j := 126) (As := [.int (lw_x V (i + 1)), .int (lw_x V (i + 2))]) (rest := []) c1 C dL_law_203 gL_law_X4_hold rfl hdX4_hold ⟨rfl, rfl, Nat.le_of_ble_eq_true rfl, Nat.le_of_ble_eq_true rfl⟩ rfl (Nat.le_of_ble_eq_true rfl) rfl rfl rfl ⟨Nat.le_of_ble_eq_true rfl, Nat.le_of_ble_eq_true rfl⟩ ?_
  refine lw_aload_2 (pc := 206) C dL_law_206 ?_
  refine lw_aload_0 (pc := 207) C dL_law_207 ?_
  refine lw_iload_3 (pc := 208) C dL_law_208 ?_
  refine lw_iconst (pc := 209) (nI 1) C dL_law_209 (by decide) ?_
  refine lw_iaddN (pc := 210) C dL_law_210 ?_
  refine lw_sld (pc := 211) (by omega) C dL_law_211 ?_
  refine lw_aload_0 (pc := 212) C dL_law_212 ?_
  refine lw_iload_3 (pc := 213) C dL_law_213 ?_
  refine lw_iconst (pc := 214) (nI 2) C dL_law_214 (by decide) ?_
  refine lw_iaddN (pc := 215) C dL_law_215 ?_
  refine lw_sld (pc := 216) (by omega) C dL_law_216 ?_
  refine lw_call (pc := 217) (r := rm) (j := 0) (As := [.int (lw_x V (i + 1)), .int (lw_x V (i + 2))]) (rest := [.int v]) c2 C dL_law_217 gL_law_X5_hold rfl hdX5_hold ⟨rfl, rfl, Nat.le_of_ble_eq_true rfl, Nat.le_of_ble_eq_true rfl⟩ rfl (Nat.le_of_ble_eq_true rfl) rfl rfl rfl ⟨Nat.le_of_ble_eq_true rfl, Nat.le_of_ble_eq_true rfl⟩ ?_
  exact lw_icmp_same (pc := 220) 607 C dL_law_220 rfl (k G' M' h')
theorem lw_c_225 {V : lw_V} (C : lw_C V) {rc rm : Nat → Nat} {G M : Nat → Int32} {i : Nat} (hi : i + 3 < lw_n V) (h : lw_Inv G M) (k : ∀ G' M', lw_Inv G' M' → lw_G V (lw_w V rc rm G' M') 134 5805 607 (lw_l V rc rm i) []) : lw_G V (lw_w V rc rm G M) 134 5805 225 (lw_l V rc rm i) [] := by
  obtain ⟨v, G', M', c1, c2, h'⟩ := st_fail (gk_F V.1 rc) (gk_F V.1 rm) h (lw_x V (i + 1))
  unfold lw_l at k ⊢
  refine lw_aload_1 (pc := 225) C dL_law_225 ?_
  refine lw_aload_0 (pc := 226) C dL_law_226 ?_
  refine lw_iload_3 (pc := 227) C dL_law_227 ?_
  refine lw_iconst (pc := 228) (nI 1) C dL_law_228 (by decide) ?_
  refine lw_iaddN (pc := 229) C dL_law_229 ?_
  refine lw_sld (pc := 230) (by omega) C dL_law_230 ?_
  refine lw_call (pc := 231) (r := rc) (j := 126) (As := [.int (lw_x V (i + 1))]) (rest := []) c1 C dL_law_231 gL_law_X4_fail rfl hdX4_fail ⟨rfl, rfl, Nat.le_of_ble_eq_true rfl, Nat.le_of_ble_eq_true rfl⟩ rfl (Nat.le_of_ble_eq_true rfl) rfl rfl rfl ⟨Nat.le_of_ble_eq_true rfl, Nat.le_of_ble_eq_true rfl⟩ ?_
  refine lw_aload_2 (pc := 234) C dL_law_234 ?_
  refine lw_aload_0 (pc := 235) C dL_law_235 ?_
  refine lw_iload_3 (pc := 236) C dL_law_236 ?_
  refine lw_iconst (pc := 237) (nI 1) C dL_law_237 (by decide) ?_
  refine lw_iaddN (pc := 238) C dL_law_238 ?_
  refine lw_sld (pc := 239) (by omega) C dL_law_239 ?_
  refine lw_call (pc := 240) (r := rm) (j := 0) (As := [.int (lw_x V (i + 1))]) (rest := [.int v]) c2 C dL_law_240 gL_law_X5_fail rfl hdX5_fail ⟨rfl, rfl, Nat.le_of_ble_eq_true rfl, Nat.le_of_ble_eq_true rfl⟩ rfl (Nat.le_of_ble_eq_true rfl) rfl rfl rfl ⟨Nat.le_of_ble_eq_true rfl, Nat.le_of_ble_eq_true rfl⟩ ?_
  exact lw_icmp_same (pc := 243) 607 C dL_law_243 rfl (k G' M' h')
theorem lw_c_248 {V : lw_V} (C : lw_C V) {rc rm : Nat → Nat} {G M : Nat → Int32} {i : Nat} (hi : i + 3 < lw_n V) (h : lw_Inv G M) (k : ∀ G' M', lw_Inv G' M' → lw_G V (lw_w V rc rm G' M') 134 5805 607 (lw_l V rc rm i) []) : lw_G V (lw_w V rc rm G M) 134 5805 248 (lw_l V rc rm i) [] := by
  obtain ⟨v, G', M', c1, c2, h'⟩ := st_repair (gk_F V.1 rc) (gk_F V.1 rm) h (lw_x V (i + 1))
  unfold lw_l at k ⊢
  refine lw_aload_1 (pc := 248) C dL_law_248 ?_
  refine lw_aload_0 (pc := 249) C dL_law_249 ?_
  refine lw_iload_3 (pc := 250) C dL_law_250 ?_
  refine lw_iconst (pc := 251) (nI 1) C dL_law_251 (by decide) ?_
  refine lw_iaddN (pc := 252) C dL_law_252 ?_
  refine lw_sld (pc := 253) (by omega) C dL_law_253 ?_
  refine lw_call (pc := 254) (r := rc) (j := 126) (As := [.int (lw_x V (i + 1))]) (rest := []) c1 C dL_law_254 gL_law_X4_repair rfl hdX4_repair ⟨rfl, rfl, Nat.le_of_ble_eq_true rfl, Nat.le_of_ble_eq_true rfl⟩ rfl (Nat.le_of_ble_eq_true rfl) rfl rfl rfl ⟨Nat.le_of_ble_eq_true rfl, Nat.le_of_ble_eq_true rfl⟩ ?_
  refine lw_aload_2 (pc := 257) C dL_law_257 ?_
  refine lw_aload_0 (pc := 258) C dL_law_258 ?_
  refine lw_iload_3 (pc := 259) C dL_law_259 ?_
  refine lw_iconst (pc := 260) (nI 1) C dL_law_260 (by decide) ?_
  refine lw_iaddN (pc := 261) C dL_law_261 ?_
  refine lw_sld (pc := 262) (by omega) C dL_law_262 ?_
  refine lw_call (pc := 263) (r := rm) (j := 0) (As := [.int (lw_x V (i + 1))]) (rest := [.int v]) c2 C dL_law_263 gL_law_X5_repair rfl hdX5_repair ⟨rfl, rfl, Nat.le_of_ble_eq_true rfl, Nat.le_of_ble_eq_true rfl⟩ rfl (Nat.le_of_ble_eq_true rfl) rfl rfl rfl ⟨Nat.le_of_ble_eq_true rfl, Nat.le_of_ble_eq_true rfl⟩ ?_
  exact lw_icmp_same (pc := 266) 607 C dL_law_266 rfl (k G' M' h')
theorem lw_c_271 {V : lw_V} (C : lw_C V) {rc rm : Nat → Nat} {G M : Nat → Int32} {i : Nat} (hi : i + 3 < lw_n V) (h : lw_Inv G M) (k : ∀ G' M', lw_Inv G' M' → lw_G V (lw_w V rc rm G' M') 134 5805 607 (lw_l V rc rm i) []) : lw_G V (lw_w V rc rm G M) 134 5805 271 (lw_l V rc rm i) [] := by
  obtain ⟨v, G', M', c1, c2, h'⟩ := st_call (gk_F V.1 rc) (gk_F V.1 rm) h (lw_x V (i + 1)) (lw_x V (i + 2))
  unfold lw_l at k ⊢
  refine lw_aload_1 (pc := 271) C dL_law_271 ?_
  refine lw_aload_0 (pc := 272) C dL_law_272 ?_
  refine lw_iload_3 (pc := 273) C dL_law_273 ?_
  refine lw_iconst (pc := 274) (nI 1) C dL_law_274 (by decide) ?_
  refine lw_iaddN (pc := 275) C dL_law_275 ?_
  refine lw_sld (pc := 276) (by omega) C dL_law_276 ?_
  refine lw_aload_0 (pc := 277) C dL_law_277 ?_
  refine lw_iload_3 (pc := 278) C dL_law_278 ?_
  refine lw_iconst (pc := 279) (nI 2) C dL_law_279 (by decide) ?_
  refine lw_iaddN (pc := 280) C dL_law_280 ?_
  refine lw_sld (pc := 281) (by omega) C dL_law_281 ?_
  refine lw_call (pc := 282) (r := rc) (j := 126) (As := [.int (lw_x V (i + 1)), .int (lw_x V (i + 2))]) (rest := []) c1 C dL_law_282 gL_law_X4_call rfl hdX4_call ⟨rfl, rfl, Nat.le_of_ble_eq_true rfl, Nat.le_of_ble_eq_true rfl⟩ rfl (Nat.le_of_ble_eq_true rfl) rfl rfl rfl ⟨Nat.le_of_ble_eq_true rfl, Nat.le_of_ble_eq_true rfl⟩ ?_
  refine lw_aload_2 (pc := 285) C dL_law_285 ?_
  refine lw_aload_0 (pc := 286) C dL_law_286 ?_
  refine lw_iload_3 (pc := 287) C dL_law_287 ?_
  refine lw_iconst (pc := 288) (nI 1) C dL_law_288 (by decide) ?_
  refine lw_iaddN (pc := 289) C dL_law_289 ?_
  refine lw_sld (pc := 290) (by omega) C dL_law_290 ?_
  refine lw_aload_0 (pc := 291) C dL_law_291 ?_
  refine lw_iload_3 (pc := 292) C dL_law_292 ?_
  refine lw_iconst (pc := 293) (nI 2) C dL_law_293 (by decide) ?_
  refine lw_iaddN (pc := 294) C dL_law_294 ?_
  refine lw_sld (pc := 295) (by omega) C dL_law_295 ?_
  refine lw_call (pc := 296) (r := rm) (j := 0) (As := [.int (lw_x V (i + 1)), .int (lw_x V (i + 2))]) (rest := [.int v]) c2 C dL_law_296 gL_law_X5_call rfl hdX5_call ⟨rfl, rfl, Nat.le_of_ble_eq_true rfl, Nat.le_of_ble_eq_true rfl⟩ rfl (Nat.le_of_ble_eq_true rfl) rfl rfl rfl ⟨Nat.le_of_ble_eq_true rfl, Nat.le_of_ble_eq_true rfl⟩ ?_
  exact lw_icmp_same (pc := 299) 607 C dL_law_299 rfl (k G' M' h')
theorem lw_c_304 {V : lw_V} (C : lw_C V) {rc rm : Nat → Nat} {G M : Nat → Int32} {i : Nat} (hi : i + 3 < lw_n V) (h : lw_Inv G M) (k : ∀ G' M', lw_Inv G' M' → lw_G V (lw_w V rc rm G' M') 134 5805 607 (lw_l V rc rm i) []) : lw_G V (lw_w V rc rm G M) 134 5805 304 (lw_l V rc rm i) [] := by
  obtain ⟨v, G', M', c1, c2, h'⟩ := st_pass (gk_F V.1 rc) (gk_F V.1 rm) h (lw_x V (i + 1))
  unfold lw_l at k ⊢
  refine lw_aload_1 (pc := 304) C dL_law_304 ?_
  refine lw_aload_0 (pc := 305) C dL_law_305 ?_
  refine lw_iload_3 (pc := 306) C dL_law_306 ?_
  refine lw_iconst (pc := 307) (nI 1) C dL_law_307 (by decide) ?_
  refine lw_iaddN (pc := 308) C dL_law_308 ?_
  refine lw_sld (pc := 309) (by omega) C dL_law_309 ?_
  refine lw_call (pc := 310) (r := rc) (j := 126) (As := [.int (lw_x V (i + 1))]) (rest := []) c1 C dL_law_310 gL_law_X4_pass rfl hdX4_pass ⟨rfl, rfl, Nat.le_of_ble_eq_true rfl, Nat.le_of_ble_eq_true rfl⟩ rfl (Nat.le_of_ble_eq_true rfl) rfl rfl rfl ⟨Nat.le_of_ble_eq_true rfl, Nat.le_of_ble_eq_true rfl⟩ ?_
  refine lw_aload_2 (pc := 313) C dL_law_313 ?_
  refine lw_aload_0 (pc := 314) C dL_law_314 ?_
  refine lw_iload_3 (pc := 315) C dL_law_315 ?_
  refine lw_iconst (pc := 316) (nI 1) C dL_law_316 (by decide) ?_
  refine lw_iaddN (pc := 317) C dL_law_317 ?_
  refine lw_sld (pc := 318) (by omega) C dL_law_318 ?_
  refine lw_call (pc := 319) (r := rm) (j := 0) (As := [.int (lw_x V (i + 1))]) (rest := [.int v]) c2 C dL_law_319 gL_law_X5_pass rfl hdX5_pass ⟨rfl, rfl, Nat.le_of_ble_eq_true rfl, Nat.le_of_ble_eq_true rfl⟩ rfl (Nat.le_of_ble_eq_true rfl) rfl rfl rfl ⟨Nat.le_of_ble_eq_true rfl, Nat.le_of_ble_eq_true rfl⟩ ?_
  exact lw_icmp_same (pc := 322) 607 C dL_law_322 rfl (k G' M' h')
theorem lw_c_327 {V : lw_V} (C : lw_C V) {rc rm : Nat → Nat} {G M : Nat → Int32} {i : Nat} (hi : i + 3 < lw_n V) (h : lw_Inv G M) (k : ∀ G' M', lw_Inv G' M' → lw_G V (lw_w V rc rm G' M') 134 5805 607 (lw_l V rc rm i) []) : lw_G V (lw_w V rc rm G M) 134 5805 327 (lw_l V rc rm i) [] := by
  obtain ⟨v, G', M', c1, c2, h'⟩ := st_undo (gk_F V.1 rc) (gk_F V.1 rm) h
  unfold lw_l at k ⊢
  refine lw_aload_1 (pc := 327) C dL_law_327 ?_
  refine lw_call (pc := 328) (r := rc) (j := 126) (As := []) (rest := []) c1 C dL_law_328 gL_law_X4_undo rfl hdX4_undo ⟨rfl, rfl, Nat.le_of_ble_eq_true rfl, Nat.le_of_ble_eq_true rfl⟩ rfl (Nat.le_of_ble_eq_true rfl) rfl rfl rfl ⟨Nat.le_of_ble_eq_true rfl, Nat.le_of_ble_eq_true rfl⟩ ?_
  refine lw_aload_2 (pc := 331) C dL_law_331 ?_
  refine lw_call (pc := 332) (r := rm) (j := 0) (As := []) (rest := [.int v]) c2 C dL_law_332 gL_law_X5_undo rfl hdX5_undo ⟨rfl, rfl, Nat.le_of_ble_eq_true rfl, Nat.le_of_ble_eq_true rfl⟩ rfl (Nat.le_of_ble_eq_true rfl) rfl rfl rfl ⟨Nat.le_of_ble_eq_true rfl, Nat.le_of_ble_eq_true rfl⟩ ?_
  exact lw_icmp_same (pc := 335) 607 C dL_law_335 rfl (k G' M' h')
theorem lw_c_340 {V : lw_V} (C : lw_C V) {rc rm : Nat → Nat} {G M : Nat → Int32} {i : Nat} (hi : i + 3 < lw_n V) (h : lw_Inv G M) (k : ∀ G' M', lw_Inv G' M' → lw_G V (lw_w V rc rm G' M') 134 5805 607 (lw_l V rc rm i) []) : lw_G V (lw_w V rc rm G M) 134 5805 340 (lw_l V rc rm i) [] := by
  obtain ⟨v, G', M', c1, c2, h'⟩ := st_count (gk_F V.1 rc) (gk_F V.1 rm) h (lw_x V (i + 1))
  unfold lw_l at k ⊢
  refine lw_aload_1 (pc := 340) C dL_law_340 ?_
  refine lw_aload_0 (pc := 341) C dL_law_341 ?_
  refine lw_iload_3 (pc := 342) C dL_law_342 ?_
  refine lw_iconst (pc := 343) (nI 1) C dL_law_343 (by decide) ?_
  refine lw_iaddN (pc := 344) C dL_law_344 ?_
  refine lw_sld (pc := 345) (by omega) C dL_law_345 ?_
  refine lw_call (pc := 346) (r := rc) (j := 126) (As := [.int (lw_x V (i + 1))]) (rest := []) c1 C dL_law_346 gL_law_X4_count rfl hdX4_count ⟨rfl, rfl, Nat.le_of_ble_eq_true rfl, Nat.le_of_ble_eq_true rfl⟩ rfl (Nat.le_of_ble_eq_true rfl) rfl rfl rfl ⟨Nat.le_of_ble_eq_true rfl, Nat.le_of_ble_eq_true rfl⟩ ?_
  refine lw_aload_2 (pc := 349) C dL_law_349 ?_
  refine lw_aload_0 (pc := 350) C dL_law_350 ?_
  refine lw_iload_3 (pc := 351) C dL_law_351 ?_
  refine lw_iconst (pc := 352) (nI 1) C dL_law_352 (by decide) ?_
  refine lw_iaddN (pc := 353) C dL_law_353 ?_
  refine lw_sld (pc := 354) (by omega) C dL_law_354 ?_
  refine lw_call (pc := 355) (r := rm) (j := 0) (As := [.int (lw_x V (i + 1))]) (rest := [.int v]) c2 C dL_law_355 gL_law_X5_count rfl hdX5_count ⟨rfl, rfl, Nat.le_of_ble_eq_true rfl, Nat.le_of_ble_eq_true rfl⟩ rfl (Nat.le_of_ble_eq_true rfl) rfl rfl rfl ⟨Nat.le_of_ble_eq_true rfl, Nat.le_of_ble_eq_true rfl⟩ ?_
  exact lw_icmp_same (pc := 358) 607 C dL_law_358 rfl (k G' M' h')
theorem lw_c_363 {V : lw_V} (C : lw_C V) {rc rm : Nat → Nat} {G M : Nat → Int32} {i : Nat} (hi : i + 3 < lw_n V) (h : lw_Inv G M) (k : ∀ G' M', lw_Inv G' M' → lw_G V (lw_w V rc rm G' M') 134 5805 607 (lw_l V rc rm i) []) : lw_G V (lw_w V rc rm G M) 134 5805 363 (lw_l V rc rm i) [] := by
  obtain ⟨v, G', M', c1, c2, h'⟩ := st_car (gk_F V.1 rc) (gk_F V.1 rm) h (lw_x V (i + 1)) (lw_x V (i + 2))
  unfold lw_l at k ⊢
  refine lw_aload_1 (pc := 363) C dL_law_363 ?_
  refine lw_aload_0 (pc := 364) C dL_law_364 ?_
  refine lw_iload_3 (pc := 365) C dL_law_365 ?_
  refine lw_iconst (pc := 366) (nI 1) C dL_law_366 (by decide) ?_
  refine lw_iaddN (pc := 367) C dL_law_367 ?_
  refine lw_sld (pc := 368) (by omega) C dL_law_368 ?_
  refine lw_aload_0 (pc := 369) C dL_law_369 ?_
  refine lw_iload_3 (pc := 370) C dL_law_370 ?_
  refine lw_iconst (pc := 371) (nI 2) C dL_law_371 (by decide) ?_
  refine lw_iaddN (pc := 372) C dL_law_372 ?_
  refine lw_sld (pc := 373) (by omega) C dL_law_373 ?_
  refine lw_call (pc := 374) (r := rc) (j := 126) (As := [.int (lw_x V (i + 1)), .int (lw_x V (i + 2))]) (rest := []) c1 C dL_law_374 gL_law_X4_car rfl hdX4_car ⟨rfl, rfl, Nat.le_of_ble_eq_true rfl, Nat.le_of_ble_eq_true rfl⟩ rfl (Nat.le_of_ble_eq_true rfl) rfl rfl rfl ⟨Nat.le_of_ble_eq_true rfl, Nat.le_of_ble_eq_true rfl⟩ ?_
  refine lw_aload_2 (pc := 377) C dL_law_377 ?_
  refine lw_aload_0 (pc := 378) C dL_law_378 ?_
  refine lw_iload_3 (pc := 379) C dL_law_379 ?_
  refine lw_iconst (pc := 380) (nI 1) C dL_law_380 (by decide) ?_
  refine lw_iaddN (pc := 381) C dL_law_381 ?_
  refine lw_sld (pc := 382) (by omega) C dL_law_382 ?_
  refine lw_aload_0 (pc := 383) C dL_law_383 ?_
  refine lw_iload_3 (pc := 384) C dL_law_384 ?_
  refine lw_iconst (pc := 385) (nI 2) C dL_law_385 (by decide) ?_
  refine lw_iaddN (pc := 386) C dL_law_386 ?_
  refine lw_sld (pc := 387) (by omega) C dL_law_387 ?_
  refine lw_call (pc := 388) (r := rm) (j := 0) (As := [.int (lw_x V (i + 1)), .int (lw_x V (i + 2))]) (rest := [.int v]) c2 C dL_law_388 gL_law_X5_car rfl hdX5_car ⟨rfl, rfl, Nat.le_of_ble_eq_true rfl, Nat.le_of_ble_eq_true rfl⟩ rfl (Nat.le_of_ble_eq_true rfl) rfl rfl rfl ⟨Nat.le_of_ble_eq_true rfl, Nat.le_of_ble_eq_true rfl⟩ ?_
  exact lw_icmp_same (pc := 391) 607 C dL_law_391 rfl (k G' M' h')
theorem lw_c_396 {V : lw_V} (C : lw_C V) {rc rm : Nat → Nat} {G M : Nat → Int32} {i : Nat} (hi : i + 3 < lw_n V) (h : lw_Inv G M) (k : ∀ G' M', lw_Inv G' M' → lw_G V (lw_w V rc rm G' M') 134 5805 607 (lw_l V rc rm i) []) : lw_G V (lw_w V rc rm G M) 134 5805 396 (lw_l V rc rm i) [] := by
  obtain ⟨v, G', M', c1, c2, h'⟩ := st_caller (gk_F V.1 rc) (gk_F V.1 rm) h (lw_x V (i + 1)) (lw_x V (i + 2))
  unfold lw_l at k ⊢
  refine lw_aload_1 (pc := 396) C dL_law_396 ?_
  refine lw_aload_0 (pc := 397) C dL_law_397 ?_
  refine lw_iload_3 (pc := 398) C dL_law_398 ?_
  refine lw_iconst (pc := 399) (nI 1) C dL_law_399 (by decide) ?_
  refine lw_iaddN (pc := 400) C dL_law_400 ?_
  refine lw_sld (pc := 401) (by omega) C dL_law_401 ?_
  refine lw_aload_0 (pc := 402) C dL_law_402 ?_
  refine lw_iload_3 (pc := 403) C dL_law_403 ?_
  refine lw_iconst (pc := 404) (nI 2) C dL_law_404 (by decide) ?_
  refine lw_iaddN (pc := 405) C dL_law_405 ?_
  refine lw_sld (pc := 406) (by omega) C dL_law_406 ?_
  refine lw_call (pc := 407) (r := rc) (j := 126) (As := [.int (lw_x V (i + 1)), .int (lw_x V (i + 2))]) (rest := []) c1 C dL_law_407 gL_law_X4_caller rfl hdX4_caller ⟨rfl, rfl, Nat.le_of_ble_eq_true rfl, Nat.le_of_ble_eq_true rfl⟩ rfl (Nat.le_of_ble_eq_true rfl) rfl rfl rfl ⟨Nat.le_of_ble_eq_true rfl, Nat.le_of_ble_eq_true rfl⟩ ?_
  refine lw_aload_2 (pc := 410) C dL_law_410 ?_
  refine lw_aload_0 (pc := 411) C dL_law_411 ?_
  refine lw_iload_3 (pc := 412) C dL_law_412 ?_
  refine lw_iconst (pc := 413) (nI 1) C dL_law_413 (by decide) ?_
  refine lw_iaddN (pc := 414) C dL_law_414 ?_
  refine lw_sld (pc := 415) (by omega) C dL_law_415 ?_
  refine lw_aload_0 (pc := 416) C dL_law_416 ?_
  refine lw_iload_3 (pc := 417) C dL_law_417 ?_
  refine lw_iconst (pc := 418) (nI 2) C dL_law_418 (by decide) ?_
  refine lw_iaddN (pc := 419) C dL_law_419 ?_
  refine lw_sld (pc := 420) (by omega) C dL_law_420 ?_
  refine lw_call (pc := 421) (r := rm) (j := 0) (As := [.int (lw_x V (i + 1)), .int (lw_x V (i + 2))]) (rest := [.int v]) c2 C dL_law_421 gL_law_X5_caller rfl hdX5_caller ⟨rfl, rfl, Nat.le_of_ble_eq_true rfl, Nat.le_of_ble_eq_true rfl⟩ rfl (Nat.le_of_ble_eq_true rfl) rfl rfl rfl ⟨Nat.le_of_ble_eq_true rfl, Nat.le_of_ble_eq_true rfl⟩ ?_
  exact lw_icmp_same (pc := 424) 607 C dL_law_424 rfl (k G' M' h')
theorem lw_c_429 {V : lw_V} (C : lw_C V) {rc rm : Nat → Nat} {G M : Nat → Int32} {i : Nat} (hi : i + 3 < lw_n V) (h : lw_Inv G M) (k : ∀ G' M', lw_Inv G' M' → lw_G V (lw_w V rc rm G' M') 134 5805 607 (lw_l V rc rm i) []) : lw_G V (lw_w V rc rm G M) 134 5805 429 (lw_l V rc rm i) [] := by
  obtain ⟨v, G', M', c1, c2, h'⟩ := st_group (gk_F V.1 rc) (gk_F V.1 rm) h (lw_x V (i + 1)) (lw_x V (i + 2))
  unfold lw_l at k ⊢
  refine lw_aload_1 (pc := 429) C dL_law_429 ?_
  refine lw_aload_0 (pc := 430) C dL_law_430 ?_
  refine lw_iload_3 (pc := 431) C dL_law_431 ?_
  refine lw_iconst (pc := 432) (nI 1) C dL_law_432 (by decide) ?_
  refine lw_iaddN (pc := 433) C dL_law_433 ?_
  refine lw_sld (pc := 434) (by omega) C dL_law_434 ?_
  refine lw_aload_0 (pc := 435) C dL_law_435 ?_
  refine lw_iload_3 (pc := 436) C dL_law_436 ?_
  refine lw_iconst (pc := 437) (nI 2) C dL_law_437 (by decide) ?_
  refine lw_iaddN (pc := 438) C dL_law_438 ?_
  refine lw_sld (pc := 439) (by omega) C dL_law_439 ?_
  refine lw_call (pc := 440) (r := rc) (j := 126) (As := [.int (lw_x V (i + 1)), .int (lw_x V (i + 2))]) (rest := []) c1 C dL_law_440 gL_law_X4_group rfl hdX4_group ⟨rfl, rfl, Nat.le_of_ble_eq_true rfl, Nat.le_of_ble_eq_true rfl⟩ rfl (Nat.le_of_ble_eq_true rfl) rfl rfl rfl ⟨Nat.le_of_ble_eq_true rfl, Nat.le_of_ble_eq_true rfl⟩ ?_
  refine lw_aload_2 (pc := 443) C dL_law_443 ?_
  refine lw_aload_0 (pc := 444) C dL_law_444 ?_
  refine lw_iload_3 (pc := 445) C dL_law_445 ?_
  refine lw_iconst (pc := 446) (nI 1) C dL_law_446 (by decide) ?_
  refine lw_iaddN (pc := 447) C dL_law_447 ?_
  refine lw_sld (pc := 448) (by omega) C dL_law_448 ?_
  refine lw_aload_0 (pc := 449) C dL_law_449 ?_
  refine lw_iload_3 (pc := 450) C dL_law_450 ?_
  refine lw_iconst (pc := 451) (nI 2) C dL_law_451 (by decide) ?_
  refine lw_iaddN (pc := 452) C dL_law_452 ?_
  refine lw_sld (pc := 453) (by omega) C dL_law_453 ?_
  refine lw_call (pc := 454) (r := rm) (j := 0) (As := [.int (lw_x V (i + 1)), .int (lw_x V (i + 2))]) (rest := [.int v]) c2 C dL_law_454 gL_law_X5_group rfl hdX5_group ⟨rfl, rfl, Nat.le_of_ble_eq_true rfl, Nat.le_of_ble_eq_true rfl⟩ rfl (Nat.le_of_ble_eq_true rfl) rfl rfl rfl ⟨Nat.le_of_ble_eq_true rfl, Nat.le_of_ble_eq_true rfl⟩ ?_
  exact lw_icmp_same (pc := 457) 607 C dL_law_457 rfl (k G' M' h')
theorem lw_c_462 {V : lw_V} (C : lw_C V) {rc rm : Nat → Nat} {G M : Nat → Int32} {i : Nat} (hi : i + 3 < lw_n V) (h : lw_Inv G M) (k : ∀ G' M', lw_Inv G' M' → lw_G V (lw_w V rc rm G' M') 134 5805 607 (lw_l V rc rm i) []) : lw_G V (lw_w V rc rm G M) 134 5805 462 (lw_l V rc rm i) [] := by
  obtain ⟨v, G', M', c1, c2, h'⟩ := st_cost (gk_F V.1 rc) (gk_F V.1 rm) h (lw_x V (i + 1)) (lw_x V (i + 2)) (lw_x V (i + 3))
  unfold lw_l at k ⊢
  refine lw_aload_1 (pc := 462) C dL_law_462 ?_
  refine lw_aload_0 (pc := 463) C dL_law_463 ?_
  refine lw_iload_3 (pc := 464) C dL_law_464 ?_
  refine lw_iconst (pc := 465) (nI 1) C dL_law_465 (by decide) ?_
  refine lw_iaddN (pc := 466) C dL_law_466 ?_
  refine lw_sld (pc := 467) (by omega) C dL_law_467 ?_
  refine lw_aload_0 (pc := 468) C dL_law_468 ?_
  refine lw_iload_3 (pc := 469) C dL_law_469 ?_
  refine lw_iconst (pc := 470) (nI 2) C dL_law_470 (by decide) ?_
  refine lw_iaddN (pc := 471) C dL_law_471 ?_
  refine lw_sld (pc := 472) (by omega) C dL_law_472 ?_
  refine lw_aload_0 (pc := 473) C dL_law_473 ?_
  refine lw_iload_3 (pc := 474) C dL_law_474 ?_
  refine lw_iconst (pc := 475) (nI 3) C dL_law_475 (by decide) ?_
  refine lw_iaddN (pc := 476) C dL_law_476 ?_
  refine lw_sld (pc := 477) (by omega) C dL_law_477 ?_
  refine lw_call (pc := 478) (r := rc) (j := 126) (As := [.int (lw_x V (i + 1)), .int (lw_x V (i + 2)), .int (lw_x V (i + 3))]) (rest := []) c1 C dL_law_478 gL_law_X4_cost rfl hdX4_cost ⟨rfl, rfl, Nat.le_of_ble_eq_true rfl, Nat.le_of_ble_eq_true rfl⟩ rfl (Nat.le_of_ble_eq_true rfl) rfl rfl rfl ⟨Nat.le_of_ble_eq_true rfl, Nat.le_of_ble_eq_true rfl⟩ ?_
  refine lw_aload_2 (pc := 481) C dL_law_481 ?_
  refine lw_aload_0 (pc := 482) C dL_law_482 ?_
  refine lw_iload_3 (pc := 483) C dL_law_483 ?_
  refine lw_iconst (pc := 484) (nI 1) C dL_law_484 (by decide) ?_
  refine lw_iaddN (pc := 485) C dL_law_485 ?_
  refine lw_sld (pc := 486) (by omega) C dL_law_486 ?_
  refine lw_aload_0 (pc := 487) C dL_law_487 ?_
  refine lw_iload_3 (pc := 488) C dL_law_488 ?_
  refine lw_iconst (pc := 489) (nI 2) C dL_law_489 (by decide) ?_
  refine lw_iaddN (pc := 490) C dL_law_490 ?_
  refine lw_sld (pc := 491) (by omega) C dL_law_491 ?_
  refine lw_aload_0 (pc := 492) C dL_law_492 ?_
  refine lw_iload_3 (pc := 493) C dL_law_493 ?_
  refine lw_iconst (pc := 494) (nI 3) C dL_law_494 (by decide) ?_
  refine lw_iaddN (pc := 495) C dL_law_495 ?_
  refine lw_sld (pc := 496) (by omega) C dL_law_496 ?_
  refine lw_call (pc := 497) (r := rm) (j := 0) (As := [.int (lw_x V (i + 1)), .int (lw_x V (i + 2)), .int (lw_x V (i + 3))]) (rest := [.int v]) c2 C dL_law_497 gL_law_X5_cost rfl hdX5_cost ⟨rfl, rfl, Nat.le_of_ble_eq_true rfl, Nat.le_of_ble_eq_true rfl⟩ rfl (Nat.le_of_ble_eq_true rfl) rfl rfl rfl ⟨Nat.le_of_ble_eq_true rfl, Nat.le_of_ble_eq_true rfl⟩ ?_
  exact lw_icmp_same (pc := 500) 607 C dL_law_500 rfl (k G' M' h')
theorem lw_c_505 {V : lw_V} (C : lw_C V) {rc rm : Nat → Nat} {G M : Nat → Int32} {i : Nat} (hi : i + 3 < lw_n V) (h : lw_Inv G M) (k : ∀ G' M', lw_Inv G' M' → lw_G V (lw_w V rc rm G' M') 134 5805 607 (lw_l V rc rm i) []) : lw_G V (lw_w V rc rm G M) 134 5805 505 (lw_l V rc rm i) [] := by
  obtain ⟨v, G', M', c1, c2, h'⟩ := st_would (gk_F V.1 rc) (gk_F V.1 rm) h (lw_x V (i + 1)) (lw_x V (i + 2))
  unfold lw_l at k ⊢
  refine lw_aload_1 (pc := 505) C dL_law_505 ?_
  refine lw_aload_0 (pc := 506) C dL_law_506 ?_
  refine lw_iload_3 (pc := 507) C dL_law_507 ?_
  refine lw_iconst (pc := 508) (nI 1) C dL_law_508 (by decide) ?_
  refine lw_iaddN (pc := 509) C dL_law_509 ?_
  refine lw_sld (pc := 510) (by omega) C dL_law_510 ?_
  refine lw_aload_0 (pc := 511) C dL_law_511 ?_
  refine lw_iload_3 (pc := 512) C dL_law_512 ?_
  refine lw_iconst (pc := 513) (nI 2) C dL_law_513 (by decide) ?_
  refine lw_iaddN (pc := 514) C dL_law_514 ?_
  refine lw_sld (pc := 515) (by omega) C dL_law_515 ?_
  refine lw_call (pc := 516) (r := rc) (j := 126) (As := [.int (lw_x V (i + 1)), .int (lw_x V (i + 2))]) (rest := []) c1 C dL_law_516 gL_law_X4_would rfl hdX4_would ⟨rfl, rfl, Nat.le_of_ble_eq_true rfl, Nat.le_of_ble_eq_true rfl⟩ rfl (Nat.le_of_ble_eq_true rfl) rfl rfl rfl ⟨Nat.le_of_ble_eq_true rfl, Nat.le_of_ble_eq_true rfl⟩ ?_
  refine lw_aload_2 (pc := 519) C dL_law_519 ?_
  refine lw_aload_0 (pc := 520) C dL_law_520 ?_
  refine lw_iload_3 (pc := 521) C dL_law_521 ?_
  refine lw_iconst (pc := 522) (nI 1) C dL_law_522 (by decide) ?_
  refine lw_iaddN (pc := 523) C dL_law_523 ?_
  refine lw_sld (pc := 524) (by omega) C dL_law_524 ?_
  refine lw_aload_0 (pc := 525) C dL_law_525 ?_
  refine lw_iload_3 (pc := 526) C dL_law_526 ?_
  refine lw_iconst (pc := 527) (nI 2) C dL_law_527 (by decide) ?_
  refine lw_iaddN (pc := 528) C dL_law_528 ?_
  refine lw_sld (pc := 529) (by omega) C dL_law_529 ?_
  refine lw_call (pc := 530) (r := rm) (j := 0) (As := [.int (lw_x V (i + 1)), .int (lw_x V (i + 2))]) (rest := [.int v]) c2 C dL_law_530 gL_law_X5_would rfl hdX5_would ⟨rfl, rfl, Nat.le_of_ble_eq_true rfl, Nat.le_of_ble_eq_true rfl⟩ rfl (Nat.le_of_ble_eq_true rfl) rfl rfl rfl ⟨Nat.le_of_ble_eq_true rfl, Nat.le_of_ble_eq_true rfl⟩ ?_
  exact lw_icmp_same (pc := 533) 607 C dL_law_533 rfl (k G' M' h')
theorem lw_c_538 {V : lw_V} (C : lw_C V) {rc rm : Nat → Nat} {G M : Nat → Int32} {i : Nat} (hi : i + 3 < lw_n V) (h : lw_Inv G M) (k : ∀ G' M', lw_Inv G' M' → lw_G V (lw_w V rc rm G' M') 134 5805 607 (lw_l V rc rm i) []) : lw_G V (lw_w V rc rm G M) 134 5805 538 (lw_l V rc rm i) [] := by
  obtain ⟨v, G', M', c1, c2, h'⟩ := st_thereIn (gk_F V.1 rc) (gk_F V.1 rm) h (lw_x V (i + 1))
  unfold lw_l at k ⊢
  refine lw_aload_1 (pc := 538) C dL_law_538 ?_
  refine lw_aload_0 (pc := 539) C dL_law_539 ?_
  refine lw_iload_3 (pc := 540) C dL_law_540 ?_
  refine lw_iconst (pc := 541) (nI 1) C dL_law_541 (by decide) ?_
  refine lw_iaddN (pc := 542) C dL_law_542 ?_
  refine lw_sld (pc := 543) (by omega) C dL_law_543 ?_
  refine lw_call (pc := 544) (r := rc) (j := 126) (As := [.int (lw_x V (i + 1))]) (rest := []) c1 C dL_law_544 gL_law_X4_thereIn rfl hdX4_thereIn ⟨rfl, rfl, Nat.le_of_ble_eq_true rfl, Nat.le_of_ble_eq_true rfl⟩ rfl (Nat.le_of_ble_eq_true rfl) rfl rfl rfl ⟨Nat.le_of_ble_eq_true rfl, Nat.le_of_ble_eq_true rfl⟩ ?_
  refine lw_aload_2 (pc := 547) C dL_law_547 ?_
  refine lw_aload_0 (pc := 548) C dL_law_548 ?_
  refine lw_iload_3 (pc := 549) C dL_law_549 ?_
  refine lw_iconst (pc := 550) (nI 1) C dL_law_550 (by decide) ?_
  refine lw_iaddN (pc := 551) C dL_law_551 ?_
  refine lw_sld (pc := 552) (by omega) C dL_law_552 ?_
  refine lw_call (pc := 553) (r := rm) (j := 0) (As := [.int (lw_x V (i + 1))]) (rest := [.int v]) c2 C dL_law_553 gL_law_X5_thereIn rfl hdX5_thereIn ⟨rfl, rfl, Nat.le_of_ble_eq_true rfl, Nat.le_of_ble_eq_true rfl⟩ rfl (Nat.le_of_ble_eq_true rfl) rfl rfl rfl ⟨Nat.le_of_ble_eq_true rfl, Nat.le_of_ble_eq_true rfl⟩ ?_
  exact lw_icmp_same (pc := 556) 607 C dL_law_556 rfl (k G' M' h')
theorem lw_c_561 {V : lw_V} (C : lw_C V) {rc rm : Nat → Nat} {G M : Nat → Int32} {i : Nat} (hi : i + 3 < lw_n V) (h : lw_Inv G M) (k : ∀ G' M', lw_Inv G' M' → lw_G V (lw_w V rc rm G' M') 134 5805 607 (lw_l V rc rm i) []) : lw_G V (lw_w V rc rm G M) 134 5805 561 (lw_l V rc rm i) [] := by
  obtain ⟨v, G', M', c1, c2, h'⟩ := st_waits (gk_F V.1 rc) (gk_F V.1 rm) h (lw_x V (i + 1))
  unfold lw_l at k ⊢
  refine lw_aload_1 (pc := 561) C dL_law_561 ?_
  refine lw_aload_0 (pc := 562) C dL_law_562 ?_
  refine lw_iload_3 (pc := 563) C dL_law_563 ?_
  refine lw_iconst (pc := 564) (nI 1) C dL_law_564 (by decide) ?_
  refine lw_iaddN (pc := 565) C dL_law_565 ?_
  refine lw_sld (pc := 566) (by omega) C dL_law_566 ?_
  refine lw_call (pc := 567) (r := rc) (j := 126) (As := [.int (lw_x V (i + 1))]) (rest := []) c1 C dL_law_567 gL_law_X4_waits rfl hdX4_waits ⟨rfl, rfl, Nat.le_of_ble_eq_true rfl, Nat.le_of_ble_eq_true rfl⟩ rfl (Nat.le_of_ble_eq_true rfl) rfl rfl rfl ⟨Nat.le_of_ble_eq_true rfl, Nat.le_of_ble_eq_true rfl⟩ ?_
  refine lw_aload_2 (pc := 570) C dL_law_570 ?_
  refine lw_aload_0 (pc := 571) C dL_law_571 ?_
  refine lw_iload_3 (pc := 572) C dL_law_572 ?_
  refine lw_iconst (pc := 573) (nI 1) C dL_law_573 (by decide) ?_
  refine lw_iaddN (pc := 574) C dL_law_574 ?_
  refine lw_sld (pc := 575) (by omega) C dL_law_575 ?_
  refine lw_call (pc := 576) (r := rm) (j := 0) (As := [.int (lw_x V (i + 1))]) (rest := [.int v]) c2 C dL_law_576 gL_law_X5_waits rfl hdX5_waits ⟨rfl, rfl, Nat.le_of_ble_eq_true rfl, Nat.le_of_ble_eq_true rfl⟩ rfl (Nat.le_of_ble_eq_true rfl) rfl rfl rfl ⟨Nat.le_of_ble_eq_true rfl, Nat.le_of_ble_eq_true rfl⟩ ?_
  exact lw_icmp_same (pc := 579) 607 C dL_law_579 rfl (k G' M' h')
theorem lw_c_584 {V : lw_V} (C : lw_C V) {rc rm : Nat → Nat} {G M : Nat → Int32} {i : Nat} (hi : i + 3 < lw_n V) (h : lw_Inv G M) (k : ∀ G' M', lw_Inv G' M' → lw_G V (lw_w V rc rm G' M') 134 5805 607 (lw_l V rc rm i) []) : lw_G V (lw_w V rc rm G M) 134 5805 584 (lw_l V rc rm i) [] := by
  obtain ⟨v, G', M', c1, c2, h'⟩ := st_worstCar (gk_F V.1 rc) (gk_F V.1 rm) h (lw_x V (i + 1))
  unfold lw_l at k ⊢
  refine lw_aload_1 (pc := 584) C dL_law_584 ?_
  refine lw_aload_0 (pc := 585) C dL_law_585 ?_
  refine lw_iload_3 (pc := 586) C dL_law_586 ?_
  refine lw_iconst (pc := 587) (nI 1) C dL_law_587 (by decide) ?_
  refine lw_iaddN (pc := 588) C dL_law_588 ?_
  refine lw_sld (pc := 589) (by omega) C dL_law_589 ?_
  refine lw_call (pc := 590) (r := rc) (j := 126) (As := [.int (lw_x V (i + 1))]) (rest := []) c1 C dL_law_590 gL_law_X4_worstCar rfl hdX4_worstCar ⟨rfl, rfl, Nat.le_of_ble_eq_true rfl, Nat.le_of_ble_eq_true rfl⟩ rfl (Nat.le_of_ble_eq_true rfl) rfl rfl rfl ⟨Nat.le_of_ble_eq_true rfl, Nat.le_of_ble_eq_true rfl⟩ ?_
  refine lw_aload_2 (pc := 593) C dL_law_593 ?_
  refine lw_aload_0 (pc := 594) C dL_law_594 ?_
  refine lw_iload_3 (pc := 595) C dL_law_595 ?_
  refine lw_iconst (pc := 596) (nI 1) C dL_law_596 (by decide) ?_
  refine lw_iaddN (pc := 597) C dL_law_597 ?_
  refine lw_sld (pc := 598) (by omega) C dL_law_598 ?_
  refine lw_call (pc := 599) (r := rm) (j := 0) (As := [.int (lw_x V (i + 1))]) (rest := [.int v]) c2 C dL_law_599 gL_law_X5_worstCar rfl hdX5_worstCar ⟨rfl, rfl, Nat.le_of_ble_eq_true rfl, Nat.le_of_ble_eq_true rfl⟩ rfl (Nat.le_of_ble_eq_true rfl) rfl rfl rfl ⟨Nat.le_of_ble_eq_true rfl, Nat.le_of_ble_eq_true rfl⟩ ?_
  exact lw_icmp_same (pc := 602) 607 C dL_law_602 rfl (k G' M' h')
theorem lw_C_n {V : lw_V} (C : lw_C V) : lw_n V ≤ 2048 := by
  obtain ⟨K, p, e, s, m, b, LL, xs, below, meth, c⟩ := V
  obtain ⟨hx, hb, hml, hown, hts, hK, hAO, hNw, hX, hbl, hLL, hlk, hr⟩ := C
  exact hLL
theorem lw_gt {LL a : Nat} (hL : LL ≤ 2048) (ha : a ≤ 4096) (h : ¬ nI LL - nI 4 < nI a) : a + 3 < LL := by
  by_cases h4 : 4 ≤ LL
  · have e : nI LL - nI 4 = nI (LL - 4) := by
      have e1 := nI_add (LL - 4) 4
      rw [show LL - 4 + 4 = LL by omega] at e1
      rw [← e1]
      exact Int32.add_sub_cancel _ _
    rw [e, nI_ltI (by omega) (by omega)] at h
    omega
  · exfalso
    have h0 : nI 0 ≤ nI a := (nI_leI (by omega) (by omega)).mpr (Nat.zero_le _)
    refine h (Int32.lt_of_lt_of_le (b := nI 0) ?_ h0)
    rcases (show LL = 0 ∨ LL = 1 ∨ LL = 2 ∨ LL = 3 by omega) with rfl | rfl | rfl | rfl <;> decide
theorem lw_step {V : lw_V} (C : lw_C V) {rc rm : Nat → Nat} {G M : Nat → Int32} {i : Nat} (h : lw_Inv G M) (hi : i ≤ lw_n V + 4) (next : i + 3 < lw_n V → ∀ G' M', lw_Inv G' M' → lw_G V (lw_w V rc rm G' M') 134 5805 18 (lw_l V rc rm (i + 4)) []) : lw_G V (lw_w V rc rm G M) 134 5805 18 (lw_l V rc rm i) [] := by
  have hLL := lw_C_n C
  show lw_G V (lw_w V rc rm G M) 134 5805 18 [some (.ref (lw_b V)), some (.ref (rc 126)), some (.ref (rm 0)), some (.int (nI i))] []
  refine lw_iload_3 (pc := 18) C dL_law_18 ?_
  refine lw_aload_0 (pc := 19) C dL_law_19 ?_
  refine lw_slen (pc := 20) C dL_law_20 ?_
  refine lw_iconst (pc := 21) (nI 4) C dL_law_21 (by decide) ?_
  refine lw_isub (pc := 22) C dL_law_22 ?_
  refine lw_icmp_gt (pc := 23) 613 C dL_law_23 rfl (fun _ => lw_end C (by omega) (by omega)) (fun hlt => ?_)
  have hlt2 : i + 3 < lw_n V := lw_gt hLL (by omega) hlt
  refine lw_aload_0 (pc := 26) C dL_law_26 ?_
  refine lw_iload_3 (pc := 27) C dL_law_27 ?_
  refine lw_sld (pc := 28) (by omega) C dL_law_28 ?_
  refine lw_bipush (pc := 29) (nI 31) C dL_law_29 (by decide +kernel) ?_
  refine lw_iand (pc := 31) C dL_law_31 ?_
  have k607 : ∀ G' M', lw_Inv G' M' → lw_G V (lw_w V rc rm G' M') 134 5805 607 (lw_l V rc rm i) [] := fun G' M' h' => lw_iincN_3 (pc := 607) (v := 4) (by decide) C dL_law_607 (lw_goto (pc := 610) 18 C dL_law_610 rfl (next hlt2 G' M' h'))
  refine lw_table C (fun t ht => ?_) (k607 G M h)
  simp only [List.mem_cons, List.not_mem_nil, or_false] at ht
  rcases ht with rfl | rfl | rfl | rfl | rfl | rfl | rfl | rfl | rfl | rfl | rfl | rfl | rfl | rfl | rfl | rfl | rfl
  · exact lw_c_116 C hlt2 h k607
  · exact lw_c_159 C hlt2 h k607
  · exact lw_c_192 C hlt2 h k607
  · exact lw_c_225 C hlt2 h k607
  · exact lw_c_248 C hlt2 h k607
  · exact lw_c_271 C hlt2 h k607
  · exact lw_c_304 C hlt2 h k607
  · exact lw_c_327 C hlt2 h k607
  · exact lw_c_340 C hlt2 h k607
  · exact lw_c_363 C hlt2 h k607
  · exact lw_c_396 C hlt2 h k607
  · exact lw_c_429 C hlt2 h k607
  · exact lw_c_462 C hlt2 h k607
  · exact lw_c_505 C hlt2 h k607
  · exact lw_c_538 C hlt2 h k607
  · exact lw_c_561 C hlt2 h k607
  · exact lw_c_584 C hlt2 h k607
theorem lw_loop {V : lw_V} (C : lw_C V) {rc rm : Nat → Nat} : ∀ (n i : Nat) (G M : Nat → Int32), lw_Inv G M → i ≤ lw_n V + 4 → lw_n V + 4 ≤ i + n → lw_G V (lw_w V rc rm G M) 134 5805 18 (lw_l V rc rm i) [] := by
  intro n
  induction n with
  | zero => intro i G M h hi hn; exact lw_step C h hi (fun h3 => absurd h3 (by omega))
  | succ n ih => intro i G M h hi hn; exact lw_step C h hi (fun h3 G' M' h' => ih (i + 4) G' M' h' (by omega) (by omega))
