/-! ===== the law's loops ===== -/
abbrev lw_lc (V : lw_V) (r : Nat → Nat) (x y z : Option Value) : List (Option Value) := [some (.ref (lw_b V)), some (.ref (r 126)), some (.ref (r 129)), some (.ref (r 130)), some (.ref (r 131)), some (.ref (r 132)), some (.ref (r 133)), x, y, z]
theorem lw_room : 134 ≤ room_1.cells ∧ 2914 ≤ room_1.slots := ⟨Nat.le_of_ble_eq_true rfl, Nat.le_of_ble_eq_true rfl⟩
section LH
variable {V : lw_V} {r : Nat → Nat} {n m t p q A : Nat} {G S : Nat → Int32} {pc : Nat} {L : List (Option Value)}
/-- the law's last two calls, and its end -/
theorem lw_last (C : lw_C V) (I : qI n m t p q A G S) {y z : Option Value} : lw_G V (gl_w (gk_F V.1 r) LL (ll G (en S n))) 134 2914 226 (lw_lc V r (some (.int (nI 1))) y z) [] := by
  obtain ⟨w, hq, ht1, hA, hS, hp5, hq5, hp, hqq, zz⟩ := id I
  refine lw_iload_7 (pc := 226) C dL_law_226 ?_
  refine lw_ifeq (pc := 228) 254 C dL_law_228 rfl (fun h => absurd h (by decide)) (fun _ => ?_)
  refine lw_aload_1 (pc := 231) C dL_law_231 ?_
  refine lw_bipush (pc := 232) (nI 14) C dL_law_232 (by decide +kernel) ?_
  refine lw_callV (pc := 234) (r := r) (lay := LL) (j := 126) (As := [.int (nI 14)]) (rest := []) (gl_upC (ctX4_count (gk_F V.1 r) w (by omega) hS hp (nI 14))) C dL_law_234 gL_law_X4_count rfl hdX4_count ⟨rfl, rfl, Nat.le_of_ble_eq_true rfl, Nat.le_of_ble_eq_true rfl⟩ rfl (Nat.le_of_ble_eq_true rfl) rfl rfl rfl lw_room ?_
  refine lw_iconst (pc := 237) (-1) C dL_law_237 (by decide) ?_
  refine lw_icmp_ne (pc := 238) 254 C dL_law_238 rfl (fun h => absurd (pa_tab_out (Or.inr (by rw [nI_toInt (by omega)]; omega))) h) (fun _ => ?_)
  refine lw_aload_1 (pc := 241) C dL_law_241 ?_
  refine lw_iconst (pc := 242) (-1) C dL_law_242 (by decide) ?_
  refine lw_callV (pc := 243) (r := r) (lay := LL) (j := 126) (As := [.int (-1)]) (rest := []) (gl_upC (ctX4_count (gk_F V.1 r) w (by omega) hS hp (-1))) C dL_law_243 gL_law_X4_count rfl hdX4_count ⟨rfl, rfl, Nat.le_of_ble_eq_true rfl, Nat.le_of_ble_eq_true rfl⟩ rfl (Nat.le_of_ble_eq_true rfl) rfl rfl rfl lw_room ?_
  refine lw_iconst (pc := 246) (-1) C dL_law_246 (by decide) ?_
  refine lw_icmp_ne (pc := 247) 254 C dL_law_247 rfl (fun h => absurd (pa_tab_out (Or.inl (by decide))) h) (fun _ => ?_)
  refine lw_iconst (pc := 250) 1 C dL_law_250 (by decide) ?_
  refine lw_goto (pc := 251) 255 C dL_law_251 rfl ?_
  exact lw_fin C (by omega) (by omega)
/-- acts, whatever its number -/
theorem lw_acts (C : lw_C V) (I : qI n m t p q A G S) (hA1 : A + 1 ≤ 70) {index : Nat} {zz : Int32} (d : decode cL_law pc = .ok (.invokestatic index, 3)) (g : GoodIn wsL_law (va_wsS RL index yL_acts wsL_acts))
    (k : ∀ n' m' t' p' q' G' S', qI n' m' t' p' q' (A + 1) G' S' → lw_G V (gl_w (gk_F V.1 r) LL (ll G' (en S' n'))) 134 2914 (pc + 3) L [.int (nI 1)]) :
    lw_G V (gl_w (gk_F V.1 r) LL (ll G (en S n))) 134 2914 pc L [.int zz, .ref (r 133), .ref (r 132), .ref (r 131), .ref (r 130), .ref (r 129), .ref (r 126)] := by
  obtain ⟨n', m', t', p', q', G', S', ct, I'⟩ := acts_step (gk_F V.1 r) I hA1 zz
  exact lw_callS (r := r) (lay := LL) (As := [.ref (r 126), .ref (r 129), .ref (r 130), .ref (r 131), .ref (r 132), .ref (r 133), .int zz]) (rest := []) ct C d g rfl hdL_acts ⟨rfl, rfl, Nat.le_of_ble_eq_true rfl, Nat.le_of_ble_eq_true rfl⟩ rfl (Nat.le_of_ble_eq_true rfl) rfl lw_room (k n' m' t' p' q' G' S' I')
theorem lw_isSo (C : lw_C V) (I : qI n m t p q A G S) {index : Nat} (d : decode cL_law pc = .ok (.invokestatic index, 3)) (g : GoodIn wsL_law (va_wsS RL index yL_isSo wsL_isSo))
    (k : lw_G V (gl_w (gk_F V.1 r) LL (ll G (en S n))) 134 2914 (pc + 3) L [.int (nI 1)]) :
    lw_G V (gl_w (gk_F V.1 r) LL (ll G (en S n))) 134 2914 pc L [.ref (r 133), .ref (r 132), .ref (r 131), .ref (r 130), .ref (r 129), .ref (r 126)] :=
  lw_callS (r := r) (lay := LL) (As := [.ref (r 126), .ref (r 129), .ref (r 130), .ref (r 131), .ref (r 132), .ref (r 133)]) (rest := []) (ctL_isSo (gk_F V.1 r) I) C d g rfl hdL_isSo ⟨rfl, rfl, Nat.le_of_ble_eq_true rfl, Nat.le_of_ble_eq_true rfl⟩ rfl (Nat.le_of_ble_eq_true rfl) rfl lw_room k
theorem lw_args6 (C : lw_C V) {W0 : va_W} {x y z : Option Value} {a0 a1 a2 a3 a4 a5 : Nat} {st : List Value} {cells slots : Nat}
    (d0 : decode cL_law a0 = .ok (.aload_n 1, 1)) (d1 : decode cL_law (a0 + 1) = .ok (.aload_n 2, 1)) (d2 : decode cL_law (a0 + 2) = .ok (.aload_n 3, 1)) (d3 : decode cL_law (a0 + 3) = .ok (.aload 4, 2)) (d4 : decode cL_law (a0 + 5) = .ok (.aload 5, 2)) (d5 : decode cL_law (a0 + 7) = .ok (.aload 6, 2))
    (k : lw_G V W0 cells slots (a0 + 9) (lw_lc V r x y z) (.ref (r 133) :: .ref (r 132) :: .ref (r 131) :: .ref (r 130) :: .ref (r 129) :: .ref (r 126) :: st)) : lw_G V W0 cells slots a0 (lw_lc V r x y z) st := by
  refine lw_aload_1 (pc := a0) C d0 ?_
  refine lw_aload_2 (pc := a0 + 1) C d1 ?_
  refine lw_aload_3 (pc := a0 + 2) C d2 ?_
  refine lw_aload_4 (pc := a0 + 3) C d3 ?_
  refine lw_aload_5 (pc := a0 + 5) C d4 ?_
  exact lw_aload_6 (pc := a0 + 7) C d5 k
/-- the turns: an action, then a look at everything -/
theorem lw_turns (C : lw_C V) {T : Nat} (hT : T ≤ 55) : ∀ (d i n m t p q A : Nat) (G S : Nat → Int32), qI n m t p q A G S → i + d = T → A = 8 + i → lw_G V (gl_w (gk_F V.1 r) LL (ll G (en S n))) 134 2914 155 (lw_lc V r (some (.int (nI 1))) (some (.int (nI T))) (some (.int (nI i)))) [] := by
  intro d
  induction d with
  | zero =>
    intro i n m t p q A G S I hi hA
    have e : i = T := by omega
    subst e
    refine lw_iload_9 (pc := 155) C dL_law_155 ?_
    refine lw_iload_8 (pc := 157) C dL_law_157 ?_
    refine lw_icmp_ge (pc := 159) 226 C dL_law_159 rfl (fun _ => ?_) (fun h => absurd (Int32.le_refl _) h)
    exact lw_last C I
  | succ d ih =>
    intro i n m t p q A G S I hi hA
    refine lw_iload_9 (pc := 155) C dL_law_155 ?_
    refine lw_iload_8 (pc := 157) C dL_law_157 ?_
    refine lw_icmp_ge (pc := 159) 226 C dL_law_159 rfl (fun h => absurd h (nI_ge (by omega) (by omega))) (fun _ => ?_)
    refine lw_iload_7 (pc := 162) C dL_law_162 ?_
    refine lw_ifeq (pc := 164) 226 C dL_law_164 rfl (fun h => absurd h (by decide)) (fun _ => ?_)
    refine lw_args6 (a0 := 167) (a1 := 0) (a2 := 0) (a3 := 0) (a4 := 0) (a5 := 0) C dL_law_167 dL_law_168 dL_law_169 dL_law_170 dL_law_172 dL_law_174 ?_
    refine lw_aload_0 (pc := 176) C dL_law_176 ?_
    refine lw_bipush (pc := 177) (nI 9) C dL_law_177 (by decide +kernel) ?_
    refine lw_iload_9 (pc := 179) C dL_law_179 ?_
    refine lw_iadd (pc := 181) C dL_law_181 ?_
    rw [nI_add]
    refine lw_cell (pc := 182) (i := 9 + i) (by omega) C dL_law_182 (Nat.le_of_ble_eq_true rfl) lw_room (fun v => ?_)
    refine lw_sipush (pc := 185) (nI 7919) C dL_law_185 (by decide +kernel) ?_
    refine lw_iload_9 (pc := 188) C dL_law_188 ?_
    refine lw_imul (pc := 190) C dL_law_190 ?_
    refine lw_ixor (pc := 191) C dL_law_191 ?_
    refine lw_acts (pc := 192) C I (by omega) dL_law_192 gL_law_L_acts (fun n' m' t' p' q' G' S' I' => ?_)
    refine lw_ifeq (pc := 195) 217 C dL_law_195 rfl (fun h => absurd h (by decide)) (fun _ => ?_)
    refine lw_args6 (a0 := 198) (a1 := 0) (a2 := 0) (a3 := 0) (a4 := 0) (a5 := 0) C dL_law_198 dL_law_199 dL_law_200 dL_law_201 dL_law_203 dL_law_205 ?_
    refine lw_isSo (pc := 207) C I' dL_law_207 gL_law_L_isSo ?_
    refine lw_ifeq (pc := 210) 217 C dL_law_210 rfl (fun h => absurd h (by decide)) (fun _ => ?_)
    refine lw_iconst (pc := 213) (nI 1) C dL_law_213 (by decide) ?_
    refine lw_goto (pc := 214) 218 C dL_law_214 rfl ?_
    refine lw_istore_7 (pc := 218) C dL_law_218 ?_
    refine lw_iincN_9 (pc := 220) (v := 1) (by decide) C dL_law_220 ?_
    refine lw_goto (pc := 223) 155 C dL_law_223 rfl ?_
    exact ih (i + 1) n' m' t' p' q' (A + 1) G' S' I' (by omega) (by omega)
/-- behind the first eight actions -/
theorem lw_mid (C : lw_C V) (I : qI n m t p q 8 G S) {y z : Option Value} : lw_G V (gl_w (gk_F V.1 r) LL (ll G (en S n))) 134 2914 137 (lw_lc V r (some (.int (nI 1))) y z) [] := by
  refine lw_bipush (pc := 137) (nI 8) C dL_law_137 (by decide +kernel) ?_
  refine lw_aload_0 (pc := 139) C dL_law_139 ?_
  refine lw_iconst (pc := 140) (nI 0) C dL_law_140 (by decide) ?_
  refine lw_cell (pc := 141) (i := 0) (by omega) C dL_law_141 (Nat.le_of_ble_eq_true rfl) lw_room (fun v => ?_)
  refine lw_bipush (pc := 144) (nI 48) C dL_law_144 (by decide +kernel) ?_
  refine lw_callS (pc := 146) (r := r) (lay := LL) (As := [.int v, .int (nI 48)]) (rest := [.int (nI 8)]) (ctL_low (gk_F V.1 r) LL ok_LL _ v (d := 48) (by omega) (by omega)) C dL_law_146 gL_law_L_low rfl hdL_low ⟨rfl, rfl, Nat.le_of_ble_eq_true rfl, Nat.le_of_ble_eq_true rfl⟩ rfl (Nat.le_of_ble_eq_true rfl) rfl lw_room ?_
  have hlow := lowA v (d := 48) (by omega)
  refine lw_iadd (pc := 149) C dL_law_149 ?_
  rw [nI_add]
  refine lw_istore_8 (pc := 150) C dL_law_150 ?_
  refine lw_iconst (pc := 152) (nI 0) C dL_law_152 (by decide) ?_
  refine lw_istore_9 (pc := 153) C dL_law_153 ?_
  exact lw_turns C (T := 8 + lg_low v 48) (by omega) (8 + lg_low v 48) 0 n m t p q 8 G S I (by omega) (by omega)
/-- the first eight actions -/
theorem lw_eight (C : lw_C V) : ∀ (d i n m t p q A : Nat) (G S : Nat → Int32) (z : Option Value), qI n m t p q A G S → i + d = 8 → A = i → lw_G V (gl_w (gk_F V.1 r) LL (ll G (en S n))) 134 2914 73 (lw_lc V r (some (.int (nI 1))) (some (.int (nI i))) z) [] := by
  intro d
  induction d with
  | zero =>
    intro i n m t p q A G S z I hi hA
    have e : i = 8 := by omega
    subst e
    subst hA
    refine lw_iload_8 (pc := 73) C dL_law_73 ?_
    refine lw_bipush (pc := 75) (nI 8) C dL_law_75 (by decide +kernel) ?_
    refine lw_icmp_ge (pc := 77) 137 C dL_law_77 rfl (fun _ => ?_) (fun h => absurd (Int32.le_refl _) h)
    exact lw_mid C I
  | succ d ih =>
    intro i n m t p q A G S z I hi hA
    have h126 : ∀ zz : Int32, lw_G V (gl_w (gk_F V.1 r) LL (ll G (en S n))) 134 2914 126 (lw_lc V r (some (.int (nI 1))) (some (.int (nI i))) z) [.int zz, .ref (r 133), .ref (r 132), .ref (r 131), .ref (r 130), .ref (r 129), .ref (r 126)] := by
      intro zz
      refine lw_acts (pc := 126) C I (by omega) dL_law_126 gL_law_L_acts (fun n' m' t' p' q' G' S' I' => ?_)
      refine lw_istore_7 (pc := 129) C dL_law_129 ?_
      refine lw_iincN_8 (pc := 131) (v := 1) (by decide) C dL_law_131 ?_
      refine lw_goto (pc := 134) 73 C dL_law_134 rfl ?_
      exact ih (i + 1) n' m' t' p' q' (A + 1) G' S' z I' (by omega) (by omega)
    refine lw_iload_8 (pc := 73) C dL_law_73 ?_
    refine lw_bipush (pc := 75) (nI 8) C dL_law_75 (by decide +kernel) ?_
    refine lw_icmp_ge (pc := 77) 137 C dL_law_77 rfl (fun h => absurd h (nI_ge (by omega) (by omega))) (fun _ => ?_)
    refine lw_iload_7 (pc := 80) C dL_law_80 ?_
    refine lw_ifeq (pc := 82) 137 C dL_law_82 rfl (fun h => absurd h (by decide)) (fun _ => ?_)
    refine lw_args6 (a0 := 85) (a1 := 0) (a2 := 0) (a3 := 0) (a4 := 0) (a5 := 0) C dL_law_85 dL_law_86 dL_law_87 dL_law_88 dL_law_90 dL_law_92 ?_
    refine lw_aload_0 (pc := 94) C dL_law_94 ?_
    refine lw_iconst (pc := 95) (nI 1) C dL_law_95 (by decide) ?_
    refine lw_iload_8 (pc := 96) C dL_law_96 ?_
    refine lw_iadd (pc := 98) C dL_law_98 ?_
    rw [nI_add]
    refine lw_cell (pc := 99) (i := 1 + i) (by omega) C dL_law_99 (Nat.le_of_ble_eq_true rfl) lw_room (fun v => ?_)
    refine lw_ldc (pc := 102) (2147483647) C dL_law_102 (by decide +kernel) ?_
    refine lw_iand (pc := 104) C dL_law_104 ?_
    refine lw_sipush (pc := 105) (nI 768) C dL_law_105 (by decide +kernel) ?_
    refine lw_idiv (pc := 108) C dL_law_108 (by decide) ?_
    refine lw_sipush (pc := 109) (nI 768) C dL_law_109 (by decide +kernel) ?_
    refine lw_imul (pc := 112) C dL_law_112 ?_
    refine lw_iload_8 (pc := 113) C dL_law_113 ?_
    refine lw_iconst (pc := 115) (nI 3) C dL_law_115 (by decide) ?_
    refine lw_icmp_ge (pc := 116) 123 C dL_law_116 rfl (fun _ => ?_) (fun _ => ?_)
    · refine lw_bipush (pc := 123) (nI 8) C dL_law_123 (by decide +kernel) ?_
      refine lw_iadd (pc := 125) C dL_law_125 ?_
      exact h126 _
    · refine lw_iconst (pc := 119) (nI 0) C dL_law_119 (by decide) ?_
      refine lw_goto (pc := 120) 125 C dL_law_120 rfl ?_
      refine lw_iadd (pc := 125) C dL_law_125 ?_
      exact h126 _
/-! the hours: five cars awake -/
def lw_hr (k : Nat) : Nat → Int32 := fun i => if 4 ≤ i ∧ i < 4 + k then nI 5 else 0
theorem lw_hr_s {k : Nat} : upd (lw_hr k) (4 + k) (nI 5) = lw_hr (k + 1) := by
  funext i
  unfold upd lw_hr
  by_cases h : i = 4 + k
  · rw [if_pos h, if_pos (by omega)]
  · rw [if_neg h]
    by_cases h2 : 4 ≤ i ∧ i < 4 + k
    · rw [if_pos h2, if_pos (by omega)]
    · rw [if_neg h2, if_neg (by omega)]
theorem lw_hr_en : lw_hr 24 = en MH 0 := by
  have hz : gl_hi 0 = 0 := by decide
  have hz2 : gl_lo 0 = 0 := by decide
  funext i
  unfold en cw rr
  simp only [Nat.not_lt_zero, if_false, hz, hz2, ite_self]
  by_cases h : i < 58
  · rw [if_pos h]; rfl
  · rw [if_neg h]
    unfold lw_hr
    rw [if_neg (by omega)]
theorem qI_0 : qI 0 0 0 0 0 0 MG MH := by
  refine ⟨⟨by omega, by omega, rfl, rfl, rfl, fun c hc => absurd hc (by omega), fun k hk => absurd hk (by omega)⟩, ⟨by omega, fun k hk => absurd hk (by omega)⟩, by omega, by omega, fun i hi => MG_h 0 i (by omega) hi, by omega, by omega, rfl, rfl, fun c hc => absurd hc (by omega), fun k hk => absurd hk (by omega)⟩
theorem lw_hours (C : lw_C V) : ∀ (d i : Nat), i + d = 24 → lw_G V (gl_w (gk_F V.1 r) LL (ll MG (lw_hr i))) 134 2914 38 (lw_lc V r (some (.int (nI i))) none none) [] := by
  intro d
  induction d with
  | zero =>
    intro i hi
    have e : i = 24 := by omega
    subst e
    refine lw_iload_7 (pc := 38) C dL_law_38 ?_
    refine lw_bipush (pc := 40) (nI 24) C dL_law_40 (by decide +kernel) ?_
    refine lw_icmp_ge (pc := 42) 56 C dL_law_42 rfl (fun _ => ?_) (fun h => absurd (Int32.le_refl _) h)
    rw [lw_hr_en]
    refine lw_args6 (a0 := 56) (a1 := 0) (a2 := 0) (a3 := 0) (a4 := 0) (a5 := 0) C dL_law_56 dL_law_57 dL_law_58 dL_law_59 dL_law_61 dL_law_63 ?_
    refine lw_isSo (pc := 65) C qI_0 dL_law_65 gL_law_L_isSo ?_
    refine lw_istore_7 (pc := 68) C dL_law_68 ?_
    refine lw_iconst (pc := 70) (nI 0) C dL_law_70 (by decide) ?_
    refine lw_istore_8 (pc := 71) C dL_law_71 ?_
    exact lw_eight C 8 0 0 0 0 0 0 0 MG MH none qI_0 (by omega) (by omega)
  | succ d ih =>
    intro i hi
    refine lw_iload_7 (pc := 38) C dL_law_38 ?_
    refine lw_bipush (pc := 40) (nI 24) C dL_law_40 (by decide +kernel) ?_
    refine lw_icmp_ge (pc := 42) 56 C dL_law_42 rfl (fun h => absurd h (nI_ge (by omega) (by omega))) (fun _ => ?_)
    refine lw_aload_3 (pc := 45) C dL_law_45 ?_
    refine lw_iload_7 (pc := 46) C dL_law_46 ?_
    refine lw_iconst (pc := 48) (nI 5) C dL_law_48 (by decide) ?_
    refine lw_iast (pc := 49) (r := r) (lay := LL) (j := 130) i C ok_LL dL_law_49 rfl rfl (by omega) ?_
    rw [show upd (ll MG (lw_hr i)) (3000 + (4 + i)) (nI 5) = ll MG (lw_hr (i + 1)) from ll_u.trans (congrArg (ll MG) lw_hr_s)]
    refine lw_iincN_7 (pc := 50) (v := 1) (by decide) C dL_law_50 ?_
    refine lw_goto (pc := 53) 38 C dL_law_53 rfl ?_
    exact ih (i + 1) (by omega)
end LH
