theorem fX5_allThere_7 : gl_fl wsX5_allThere RX5 7 5 0 := ⟨RX5, TX5, 5, RX5, rfl, by decide, by decide +kernel, by decide +kernel, rfl⟩
theorem fX5_addCar_7 : gl_fl wsX5_addCar RX5 7 5 0 := ⟨RX5, TX5, 5, RX5, rfl, by decide, by decide +kernel, by decide +kernel, rfl⟩
theorem fX5_setAwake_7 : gl_fl wsX5_setAwake RX5 7 5 0 := ⟨RX5, TX5, 5, RX5, rfl, by decide, by decide +kernel, by decide +kernel, rfl⟩
theorem fX5_call_7 : gl_fl wsX5_call RX5 7 5 0 := ⟨RX5, TX5, 5, RX5, rfl, by decide, by decide +kernel, by decide +kernel, rfl⟩
theorem fX5_pass_7 : gl_fl wsX5_pass RX5 7 5 0 := ⟨RX5, TX5, 5, RX5, rfl, by decide, by decide +kernel, by decide +kernel, rfl⟩
theorem fX5_undo_7 : gl_fl wsX5_undo RX5 7 5 0 := ⟨RX5, TX5, 5, RX5, rfl, by decide, by decide +kernel, by decide +kernel, rfl⟩
theorem fX5_undo_13 : gl_fl wsX5_undo RX5 13 5 1 := ⟨RX5, TX5, 5, RX5, rfl, by decide, by decide +kernel, by decide +kernel, rfl⟩
theorem fX5_undo_22 : gl_fl wsX5_undo RX5 22 5 4 := ⟨RX5, TX5, 5, RX5, rfl, by decide, by decide +kernel, by decide +kernel, rfl⟩
theorem pX5_undo_22 : gl_fp wsX5_undo RX5 22 5 4 := ⟨RX5, TX5, 5, RX5, tyX5, rfl, by decide, by decide +kernel, by decide +kernel, rfl, tyX5_ok, nmX5, rfl, rfl⟩
set_option maxRecDepth 100000 in
set_option maxHeartbeats 4000000 in
theorem ctX5_copies_save (F : gl_F) (M : Nat → Int32) {jb b : Nat} (hjb : LM[jb]? = some (.inl (378, fun i => b + i))) (hb : 378 ≤ b) : gl_Ct F LM yX5_copies wsX5_copies rmX5_copies [.ref (gl_r F 1), .ref (gl_r F jb)] M (none) (sp_save M b) := by
  refine gl_met (cc := cX5_copies) (maxL := 3) (ret := none) [some (.ref (gl_r F 1)), some (.ref (gl_r F jb)), none] (plainFor_of_name (by decide)) rfl ok_LM (by simp [Value.category]) (Nat.le_of_ble_eq_true rfl) rfl (fun V hV C => ?_)
  subst hV
  refine gl_iconst (pc := 0) (nI 0) C dX5_copies_0 (by decide) ?_
  refine gl_istore_2 (pc := 1) C dX5_copies_1 ?_
  refine gl_loop (pc := 2) (n := 378) (fun k => [some (.ref (gl_r V.1 1)), some (.ref (gl_r V.1 jb)), some (.int (nI k))]) (fun k => sp_keep M b k) (fun k => True) 0 (Nat.zero_le _) (trivial) (gl_le_c (rfl) (gl_le_c (rfl) (gl_le_c (rfl) (gl_le_n)))) (sp_keep_0.symm) (fun hI => ?_) (fun k hk hI ih => ?_)
  · skip
    refine gl_iload_2 (pc := 2) C dX5_copies_2 ?_
    refine gl_sipush (pc := 3) (nI 378) C dX5_copies_3 (by decide +kernel) ?_
    refine gl_icmp_ge (pc := 6) 21 C dX5_copies_6 (by decide) (fun h6 => ?_) (fun h6 => absurd h6 (gl_xge))
    exact gl_vret (pc := 21) C dX5_copies_21 (rfl)
  · skip
    refine gl_iload_2 (pc := 2) C dX5_copies_2 ?_
    refine gl_sipush (pc := 3) (nI 378) C dX5_copies_3 (by decide +kernel) ?_
    refine gl_icmp_ge (pc := 6) 21 C dX5_copies_6 (by decide) (fun h6 => absurd h6 (nI_ge hk (by omega))) (fun h6 => ?_)
    refine gl_aload_1 (pc := 9) C dX5_copies_9 ?_
    refine gl_iload_2 (pc := 10) C dX5_copies_10 ?_
    refine gl_aload_0 (pc := 11) C dX5_copies_11 ?_
    refine gl_iload_2 (pc := 12) C dX5_copies_12 ?_
    refine gl_iald (pc := 13) _ C dX5_copies_13 rfl rfl (by omega) ?_
    refine gl_iast (pc := 14) _ C dX5_copies_14 hjb rfl (by omega) ?_
    first | with_reducible refine gl_iincN_2 (pc := 15) gl_i1 C dX5_copies_15 ?_ | refine gl_iinc_2 (pc := 15) C dX5_copies_15 (gl_inc1 _) ?_
    refine gl_goto (pc := 18) 2 C dX5_copies_18 (by decide) ?_
    exact gl_on (ih (trivial)) (gl_le_c (rfl) (gl_le_c (rfl) (gl_le_c (rfl) (gl_le_n)))) (sp_keep_1 hb hk)
set_option maxRecDepth 100000 in
set_option maxHeartbeats 4000000 in
theorem ctX5_copies_load (F : gl_F) (M : Nat → Int32) {jb b : Nat} (hjb : LM[jb]? = some (.inl (378, fun i => b + i))) (hb : 378 ≤ b) : gl_Ct F LM yX5_copies wsX5_copies rmX5_copies [.ref (gl_r F jb), .ref (gl_r F 1)] M (none) (sp_load M b) := by
  refine gl_met (cc := cX5_copies) (maxL := 3) (ret := none) [some (.ref (gl_r F jb)), some (.ref (gl_r F 1)), none] (plainFor_of_name (by decide)) rfl ok_LM (by simp [Value.category]) (Nat.le_of_ble_eq_true rfl) rfl (fun V hV C => ?_)
  subst hV
  refine gl_iconst (pc := 0) (nI 0) C dX5_copies_0 (by decide) ?_
  refine gl_istore_2 (pc := 1) C dX5_copies_1 ?_
  refine gl_loop (pc := 2) (n := 378) (fun k => [some (.ref (gl_r V.1 jb)), some (.ref (gl_r V.1 1)), some (.int (nI k))]) (fun k => sp_back M b k) (fun k => True) 0 (Nat.zero_le _) (trivial) (gl_le_c (rfl) (gl_le_c (rfl) (gl_le_c (rfl) (gl_le_n)))) (sp_back_0.symm) (fun hI => ?_) (fun k hk hI ih => ?_)
  · skip
    refine gl_iload_2 (pc := 2) C dX5_copies_2 ?_
    refine gl_sipush (pc := 3) (nI 378) C dX5_copies_3 (by decide +kernel) ?_
    refine gl_icmp_ge (pc := 6) 21 C dX5_copies_6 (by decide) (fun h6 => ?_) (fun h6 => absurd h6 (gl_xge))
    exact gl_vret (pc := 21) C dX5_copies_21 (rfl)
  · skip
    refine gl_iload_2 (pc := 2) C dX5_copies_2 ?_
    refine gl_sipush (pc := 3) (nI 378) C dX5_copies_3 (by decide +kernel) ?_
    refine gl_icmp_ge (pc := 6) 21 C dX5_copies_6 (by decide) (fun h6 => absurd h6 (nI_ge hk (by omega))) (fun h6 => ?_)
    refine gl_aload_1 (pc := 9) C dX5_copies_9 ?_
    refine gl_iload_2 (pc := 10) C dX5_copies_10 ?_
    refine gl_aload_0 (pc := 11) C dX5_copies_11 ?_
    refine gl_iload_2 (pc := 12) C dX5_copies_12 ?_
    refine gl_iald (pc := 13) _ C dX5_copies_13 hjb rfl (by omega) ?_
    refine gl_iast (pc := 14) _ C dX5_copies_14 rfl rfl (by omega) ?_
    first | with_reducible refine gl_iincN_2 (pc := 15) gl_i1 C dX5_copies_15 ?_ | refine gl_iinc_2 (pc := 15) C dX5_copies_15 (gl_inc1 _) ?_
    refine gl_goto (pc := 18) 2 C dX5_copies_18 (by decide) ?_
    exact gl_on (ih (trivial)) (gl_le_c (rfl) (gl_le_c (rfl) (gl_le_c (rfl) (gl_le_n)))) (sp_back_1 hb hk)
set_option maxRecDepth 100000 in
set_option maxHeartbeats 4000000 in
theorem ctX5_allThere (F : gl_F) {n m t : Nat} {M : Nat → Int32} (w : sp_W n m t M) (ht31 : t < 2000000) : gl_Ct F LM yX5_allThere wsX5_allThere rmX5_allThere [.ref (gl_r F 0)] M (some (.int (nI (sp_alJ M t n m)))) (sp_run M t n m (sp_alJ M t n m)) := by
  refine gl_met (cc := cX5_allThere) (maxL := 2) (ret := some .int) [some (.ref (gl_r F 0)), none] (plainFor_of_name (by decide)) rfl ok_LM (by simp [Value.category]) (Nat.le_of_ble_eq_true rfl) rfl (fun V hV C => ?_)
  subst hV
  obtain ⟨hn40, hm5, hn, hm, ht, hcar, hcal⟩ := id w
  refine gl_iconst (pc := 0) (nI 0) C dX5_allThere_0 (by decide) ?_
  refine gl_istore_1 (pc := 1) C dX5_allThere_1 ?_
  refine gl_loop (pc := 2) (n := 401) (fun k => [some (.ref (gl_r V.1 0)), some (.int (nI k))]) (fun k => sp_run M t n m k) (fun k => sp_alJ M t n m = sp_fst (sp_alP M t n m) k (401 - k)) 0 (Nat.zero_le _) (rfl) (gl_le_c (rfl) (gl_le_c (rfl) (gl_le_n))) (rfl) (fun hI => ?_) (fun k hk hI ih => ?_)
  · skip
    refine gl_iload_1 (pc := 2) C dX5_allThere_2 ?_
    refine gl_sipush (pc := 3) (nI 400) C dX5_allThere_3 (by decide +kernel) ?_
    refine gl_icmp_gt (pc := 6) 33 C dX5_allThere_6 (by decide) (fun h6 => ?_) (fun h6 => absurd h6 (not_not_intro (nI_lt (by omega) (by omega))))
    refine gl_iload_1 (pc := 33) C dX5_allThere_33 ?_
    exact gl_iret (pc := 34) C dX5_allThere_34 (by rw [hI, sp_fst_end]) (by rw [hI, sp_fst_end])
  · skip
    have wk := sp_run_W w k
    refine gl_iload_1 (pc := 2) C dX5_allThere_2 ?_
    refine gl_sipush (pc := 3) (nI 400) C dX5_allThere_3 (by decide +kernel) ?_
    refine gl_icmp_gt (pc := 6) 33 C dX5_allThere_6 (by decide) (fun h6 => absurd h6 (nI_nlt (by omega) (by omega))) (fun h6 => ?_)
    refine gl_aload_0 (pc := 9) C dX5_allThere_9 ?_
    refine gl_iconst (pc := 10) (nI 3) C dX5_allThere_10 (by decide) ?_
    refine gl_callVi (pc := 11) (ctX5_inAll V.1 hn40 wk.2.2.1 (nI 3)) C dX5_allThere_11 gX5_allThere_X5_inAll rfl hdX5_inAll ⟨rfl, rfl, Nat.le_of_ble_eq_true rfl, Nat.le_of_ble_eq_true rfl⟩ rfl (Nat.le_of_ble_eq_true rfl) rfl rfl rfl ?_
    refine gl_aload_0 (pc := 14) C dX5_allThere_14 ?_
    refine gl_getR (pc := 15) C dX5_allThere_15 fX5_allThere_7 rfl rfl ?_
    refine gl_iconst (pc := 18) (nI 2) C dX5_allThere_18 (by decide) ?_
    refine gl_iald (pc := 19) _ C dX5_allThere_19 rfl rfl (by omega) ?_
    refine gl_top wk.2.2.1 ?_
    refine gl_icmp_ge (pc := 20) 33 C dX5_allThere_20 (by decide) (fun h20 => ?_) (fun h20 => ?_)
    · skip
      have e : sp_alJ M t n m = k := hI.trans (sp_fst_at hk (by simp only [decide_eq_true_eq]; exact Int32.not_lt.mpr h20))
      refine gl_iload_1 (pc := 33) C dX5_allThere_33 ?_
      exact gl_iret (pc := 34) C dX5_allThere_34 (by rw [e]) (by rw [e])
    · skip
      refine gl_aload_0 (pc := 23) C dX5_allThere_23 ?_
      refine gl_callVv (pc := 24) (ctX5_ticks V.1 wk (by omega)) C dX5_allThere_24 gX5_allThere_X5_ticks rfl hdX5_ticks ⟨rfl, rfl, Nat.le_of_ble_eq_true rfl, Nat.le_of_ble_eq_true rfl⟩ rfl (Nat.le_of_ble_eq_true rfl) rfl rfl rfl ?_
      first | with_reducible refine gl_iincN_1 (pc := 27) gl_i1 C dX5_allThere_27 ?_ | refine gl_iinc_1 (pc := 27) C dX5_allThere_27 (gl_inc1 _) ?_
      refine gl_goto (pc := 30) 2 C dX5_allThere_30 (by decide) ?_
      exact gl_on (ih (hI.trans (sp_fst_no hk (by simp only [decide_eq_true_eq]; exact fun q => h20 (Int32.not_lt.mp q))))) (gl_le_c (rfl) (gl_le_c (rfl) (gl_le_n))) (rfl)
set_option maxRecDepth 100000 in
set_option maxHeartbeats 4000000 in
theorem ctX5_addCar (F : gl_F) {n m t : Nat} {M : Nat → Int32} (w : sp_W n m t M) (ht31 : t < 2000000) {p : Nat} (hp5 : p ≤ 5) (hp : M 378 = nI p) (lo hi pl : Int32) : gl_Ct F LM yX5_addCar wsX5_addCar rmX5_addCar [.ref (gl_r F 0), .int lo, .int hi, .int pl] M (some (.int (pa_addCar m lo hi pl))) (if sp_okC lo hi pl ∧ ¬ m = 5 then sp_addC (sp_acts M p) m lo hi pl else M) := by
  refine gl_met (cc := cX5_addCar) (maxL := 5) (ret := some .int) [some (.ref (gl_r F 0)), some (.int lo), some (.int hi), some (.int pl), none] (plainFor_of_name (by decide)) rfl ok_LM (by simp [Value.category]) (Nat.le_of_ble_eq_true rfl) rfl (fun V hV C => ?_)
  subst hV
  obtain ⟨hn40, hm5, hn, hm, ht, hcar, hcal⟩ := id w
  have alo := sp_acts_lo (M := M) (p := p)
  have wA := sp_W_lo alo w
  have hin := sp_okC_in lo hi pl
  refine gl_iload_1 (pc := 0) C dX5_addCar_0 ?_
  refine gl_iconst (pc := 1) (nI 0) C dX5_addCar_1 (by decide) ?_
  refine gl_bipush (pc := 2) (nI 14) C dX5_addCar_2 (by decide +kernel) ?_
  refine gl_callSi (pc := 4) (ctX5_in V.1 LM ok_LM M lo (nI 0) (nI 14)) C dX5_addCar_4 gX5_addCar_X5_in rfl hdX5_in ⟨rfl, rfl, Nat.le_of_ble_eq_true rfl, Nat.le_of_ble_eq_true rfl⟩ rfl (Nat.le_of_ble_eq_true rfl) rfl ?_
  refine gl_ifeq (pc := 7) 35 C dX5_addCar_7 (by decide) (fun h7 => ?_) (fun h7 => ?_)
  · skip
    replace h7 := gl_bz.mp h7
    have hno : ¬ sp_okC lo hi pl := fun q => h7 (hin.mpr q).1
    refine gl_iconst (pc := 35) (-1) C dX5_addCar_35 (by decide) ?_
    exact gl_iret (pc := 36) C dX5_addCar_36 (by rw [pa_addCar, if_neg hno]) ((if_neg (fun q => hno q.1)).symm)
  · skip
    replace h7 := gl_bn.mp h7
    refine gl_iload_2 (pc := 10) C dX5_addCar_10 ?_
    refine gl_iconst (pc := 11) (nI 1) C dX5_addCar_11 (by decide) ?_
    refine gl_bipush (pc := 12) (nI 15) C dX5_addCar_12 (by decide +kernel) ?_
    refine gl_callSi (pc := 14) (ctX5_in V.1 LM ok_LM M hi (nI 1) (nI 15)) C dX5_addCar_14 gX5_addCar_X5_in rfl hdX5_in ⟨rfl, rfl, Nat.le_of_ble_eq_true rfl, Nat.le_of_ble_eq_true rfl⟩ rfl (Nat.le_of_ble_eq_true rfl) rfl ?_
    refine gl_ifeq (pc := 17) 35 C dX5_addCar_17 (by decide) (fun h17 => ?_) (fun h17 => ?_)
    · skip
      replace h17 := gl_bz.mp h17
      have hno : ¬ sp_okC lo hi pl := fun q => h17 (hin.mpr q).2.1
      refine gl_iconst (pc := 35) (-1) C dX5_addCar_35 (by decide) ?_
      exact gl_iret (pc := 36) C dX5_addCar_36 (by rw [pa_addCar, if_neg hno]) ((if_neg (fun q => hno q.1)).symm)
    · skip
      replace h17 := gl_bn.mp h17
      refine gl_iload_2 (pc := 20) C dX5_addCar_20 ?_
      refine gl_iload_1 (pc := 21) C dX5_addCar_21 ?_
      refine gl_icmp_le (pc := 22) 35 C dX5_addCar_22 (by decide) (fun h22 => ?_) (fun h22 => ?_)
      · skip
        have hno : ¬ sp_okC lo hi pl := fun q => (hin.mpr q).2.2.1 h22
        refine gl_iconst (pc := 35) (-1) C dX5_addCar_35 (by decide) ?_
        exact gl_iret (pc := 36) C dX5_addCar_36 (by rw [pa_addCar, if_neg hno]) ((if_neg (fun q => hno q.1)).symm)
      · skip
        refine gl_iload_3 (pc := 25) C dX5_addCar_25 ?_
        refine gl_iconst (pc := 26) (nI 1) C dX5_addCar_26 (by decide) ?_
        refine gl_bipush (pc := 27) (nI 8) C dX5_addCar_27 (by decide +kernel) ?_
        refine gl_callSi (pc := 29) (ctX5_in V.1 LM ok_LM M pl (nI 1) (nI 8)) C dX5_addCar_29 gX5_addCar_X5_in rfl hdX5_in ⟨rfl, rfl, Nat.le_of_ble_eq_true rfl, Nat.le_of_ble_eq_true rfl⟩ rfl (Nat.le_of_ble_eq_true rfl) rfl ?_
        refine gl_ifne (pc := 32) 37 C dX5_addCar_32 (by decide) (fun h32 => ?_) (fun h32 => ?_)
        · skip
          replace h32 := gl_bn.mp h32
          have hok := hin.mp ⟨h7, h17, h22, h32⟩
          refine gl_aload_0 (pc := 37) C dX5_addCar_37 ?_
          refine gl_getR (pc := 38) C dX5_addCar_38 fX5_addCar_7 rfl rfl ?_
          refine gl_iconst (pc := 41) (nI 1) C dX5_addCar_41 (by decide) ?_
          refine gl_iald (pc := 42) _ C dX5_addCar_42 rfl rfl (by omega) ?_
          refine gl_top hm ?_
          refine gl_iconst (pc := 43) (nI 5) C dX5_addCar_43 (by decide) ?_
          refine gl_icmp_ne (pc := 44) 50 C dX5_addCar_44 (by decide) (fun h44 => ?_) (fun h44 => ?_)
          · skip
            have hq : ¬ m = 5 := fun q => h44 (by rw [q])
            refine gl_aload_0 (pc := 50) C dX5_addCar_50 ?_
            refine gl_callVv (pc := 51) (ctX5_acts V.1 hp5 hp) C dX5_addCar_51 gX5_addCar_X5_acts rfl hdX5_acts ⟨rfl, rfl, Nat.le_of_ble_eq_true rfl, Nat.le_of_ble_eq_true rfl⟩ rfl (Nat.le_of_ble_eq_true rfl) rfl rfl rfl ?_
            refine gl_aload_0 (pc := 54) C dX5_addCar_54 ?_
            refine gl_getR (pc := 55) C dX5_addCar_55 fX5_addCar_7 rfl rfl ?_
            refine gl_iconst (pc := 58) (nI 1) C dX5_addCar_58 (by decide) ?_
            refine gl_iald (pc := 59) _ C dX5_addCar_59 rfl rfl (by omega) ?_
            refine gl_top wA.2.2.2.1 ?_
            refine gl_istore_4 (pc := 60) C dX5_addCar_60 ?_
            refine gl_aload_0 (pc := 62) C dX5_addCar_62 ?_
            refine gl_iload_4 (pc := 63) C dX5_addCar_63 ?_
            refine gl_iconst (pc := 65) (nI 0) C dX5_addCar_65 (by decide) ?_
            refine gl_iload_1 (pc := 66) C dX5_addCar_66 ?_
            refine gl_callVv (pc := 67) (ctX5_putsCar V.1 _ m 0 (by omega) (by omega) _) C dX5_addCar_67 gX5_addCar_X5_putsCar rfl hdX5_putsCar ⟨rfl, rfl, Nat.le_of_ble_eq_true rfl, Nat.le_of_ble_eq_true rfl⟩ rfl (Nat.le_of_ble_eq_true rfl) rfl rfl rfl ?_
            refine gl_aload_0 (pc := 70) C dX5_addCar_70 ?_
            refine gl_iload_4 (pc := 71) C dX5_addCar_71 ?_
            refine gl_iconst (pc := 73) (nI 1) C dX5_addCar_73 (by decide) ?_
            refine gl_iload_2 (pc := 74) C dX5_addCar_74 ?_
            refine gl_callVv (pc := 75) (ctX5_putsCar V.1 _ m 1 (by omega) (by omega) _) C dX5_addCar_75 gX5_addCar_X5_putsCar rfl hdX5_putsCar ⟨rfl, rfl, Nat.le_of_ble_eq_true rfl, Nat.le_of_ble_eq_true rfl⟩ rfl (Nat.le_of_ble_eq_true rfl) rfl rfl rfl ?_
            refine gl_aload_0 (pc := 78) C dX5_addCar_78 ?_
            refine gl_iload_4 (pc := 79) C dX5_addCar_79 ?_
            refine gl_iconst (pc := 81) (nI 2) C dX5_addCar_81 (by decide) ?_
            refine gl_iload_3 (pc := 82) C dX5_addCar_82 ?_
            refine gl_callVv (pc := 83) (ctX5_putsCar V.1 _ m 2 (by omega) (by omega) _) C dX5_addCar_83 gX5_addCar_X5_putsCar rfl hdX5_putsCar ⟨rfl, rfl, Nat.le_of_ble_eq_true rfl, Nat.le_of_ble_eq_true rfl⟩ rfl (Nat.le_of_ble_eq_true rfl) rfl rfl rfl ?_
            refine gl_aload_0 (pc := 86) C dX5_addCar_86 ?_
            refine gl_iload_4 (pc := 87) C dX5_addCar_87 ?_
            refine gl_iconst (pc := 89) (nI 3) C dX5_addCar_89 (by decide) ?_
            refine gl_iload_1 (pc := 90) C dX5_addCar_90 ?_
            refine gl_callVv (pc := 91) (ctX5_putsCar V.1 _ m 3 (by omega) (by omega) _) C dX5_addCar_91 gX5_addCar_X5_putsCar rfl hdX5_putsCar ⟨rfl, rfl, Nat.le_of_ble_eq_true rfl, Nat.le_of_ble_eq_true rfl⟩ rfl (Nat.le_of_ble_eq_true rfl) rfl rfl rfl ?_
            refine gl_aload_0 (pc := 94) C dX5_addCar_94 ?_
            refine gl_iload_4 (pc := 95) C dX5_addCar_95 ?_
            refine gl_iconst (pc := 97) (nI 4) C dX5_addCar_97 (by decide) ?_
            refine gl_iconst (pc := 98) (nI 0) C dX5_addCar_98 (by decide) ?_
            refine gl_callVv (pc := 99) (ctX5_putsCar V.1 _ m 4 (by omega) (by omega) _) C dX5_addCar_99 gX5_addCar_X5_putsCar rfl hdX5_putsCar ⟨rfl, rfl, Nat.le_of_ble_eq_true rfl, Nat.le_of_ble_eq_true rfl⟩ rfl (Nat.le_of_ble_eq_true rfl) rfl rfl rfl ?_
            refine gl_aload_0 (pc := 102) C dX5_addCar_102 ?_
            refine gl_iload_4 (pc := 103) C dX5_addCar_103 ?_
            refine gl_iconst (pc := 105) (nI 5) C dX5_addCar_105 (by decide) ?_
            refine gl_iconst (pc := 106) (nI 0) C dX5_addCar_106 (by decide) ?_
            refine gl_callVv (pc := 107) (ctX5_putsCar V.1 _ m 5 (by omega) (by omega) _) C dX5_addCar_107 gX5_addCar_X5_putsCar rfl hdX5_putsCar ⟨rfl, rfl, Nat.le_of_ble_eq_true rfl, Nat.le_of_ble_eq_true rfl⟩ rfl (Nat.le_of_ble_eq_true rfl) rfl rfl rfl ?_
            refine gl_aload_0 (pc := 110) C dX5_addCar_110 ?_
            refine gl_getR (pc := 111) C dX5_addCar_111 fX5_addCar_7 rfl rfl ?_
            refine gl_iconst (pc := 114) (nI 1) C dX5_addCar_114 (by decide) ?_
            refine gl_dup2 (pc := 115) C dX5_addCar_115 ?_
            refine gl_iald (pc := 116) _ C dX5_addCar_116 rfl rfl (by omega) ?_
            refine gl_top ((gl_upd_ne (by unfold iC; omega)).trans ((gl_upd_ne (by unfold iC; omega)).trans ((gl_upd_ne (by unfold iC; omega)).trans ((gl_upd_ne (by unfold iC; omega)).trans ((gl_upd_ne (by unfold iC; omega)).trans ((gl_upd_ne (by unfold iC; omega)).trans wA.2.2.2.1)))))) ?_
            refine gl_iconst (pc := 117) (nI 1) C dX5_addCar_117 (by decide) ?_
            first | with_reducible refine gl_iaddN (pc := 118) C dX5_addCar_118 ?_ | refine gl_iadd (pc := 118) C dX5_addCar_118 ?_
            refine gl_iast (pc := 119) _ C dX5_addCar_119 rfl rfl (by omega) ?_
            refine gl_iload_4 (pc := 120) C dX5_addCar_120 ?_
            exact gl_iret (pc := 122) C dX5_addCar_122 (by rw [pa_addCar, if_pos hok, if_neg hq]) ((if_pos ⟨hok, hq⟩).symm)
          · skip
            have hq : m = 5 := (nI_eq (by omega) (by omega)).mp h44
            refine gl_bipush (pc := 47) (-3) C dX5_addCar_47 (by decide +kernel) ?_
            exact gl_iret (pc := 49) C dX5_addCar_49 (by rw [pa_addCar, if_pos hok, if_pos hq]) ((if_neg (fun q => q.2 hq)).symm)
        · skip
          replace h32 := gl_bz.mp h32
          have hno : ¬ sp_okC lo hi pl := fun q => h32 (hin.mpr q).2.2.2
          refine gl_iconst (pc := 35) (-1) C dX5_addCar_35 (by decide) ?_
          exact gl_iret (pc := 36) C dX5_addCar_36 (by rw [pa_addCar, if_neg hno]) ((if_neg (fun q => hno q.1)).symm)
set_option maxRecDepth 100000 in
set_option maxHeartbeats 4000000 in
theorem ctX5_setAwake (F : gl_F) {n m t : Nat} {M : Nat → Int32} (w : sp_W n m t M) (ht31 : t < 2000000) {p : Nat} (hp5 : p ≤ 5) (hp : M 378 = nI p) (x y : Int32) : gl_Ct F LM yX5_setAwake wsX5_setAwake rmX5_setAwake [.ref (gl_r F 0), .int x, .int y] M (some (.int (pa_awake (sp_acts M p) x y))) (if sp_okA x y then upd (sp_acts M p) (4 + cN x) y else M) := by
  refine gl_met (cc := cX5_setAwake) (maxL := 4) (ret := some .int) [some (.ref (gl_r F 0)), some (.int x), some (.int y), none] (plainFor_of_name (by decide)) rfl ok_LM (by simp [Value.category]) (Nat.le_of_ble_eq_true rfl) rfl (fun V hV C => ?_)
  subst hV
  obtain ⟨hn40, hm5, hn, hm, ht, hcar, hcal⟩ := id w
  have alo := sp_acts_lo (M := M) (p := p)
  have wA := sp_W_lo alo w
  refine gl_iload_1 (pc := 0) C dX5_setAwake_0 ?_
  refine gl_iconst (pc := 1) (nI 0) C dX5_setAwake_1 (by decide) ?_
  refine gl_bipush (pc := 2) (nI 23) C dX5_setAwake_2 (by decide +kernel) ?_
  refine gl_callSi (pc := 4) (ctX5_in V.1 LM ok_LM M x (nI 0) (nI 23)) C dX5_setAwake_4 gX5_setAwake_X5_in rfl hdX5_in ⟨rfl, rfl, Nat.le_of_ble_eq_true rfl, Nat.le_of_ble_eq_true rfl⟩ rfl (Nat.le_of_ble_eq_true rfl) rfl ?_
  refine gl_ifeq (pc := 7) 19 C dX5_setAwake_7 (by decide) (fun h7 => ?_) (fun h7 => ?_)
  · skip
    replace h7 := gl_bz.mp h7
    have hno : ¬ sp_okA x y := fun q => h7 q.1
    refine gl_iconst (pc := 19) (-1) C dX5_setAwake_19 (by decide) ?_
    exact gl_iret (pc := 20) C dX5_setAwake_20 (by rw [pa_awake, if_neg hno]) ((if_neg hno).symm)
  · skip
    replace h7 := gl_bn.mp h7
    refine gl_iload_2 (pc := 10) C dX5_setAwake_10 ?_
    refine gl_iconst (pc := 11) (nI 1) C dX5_setAwake_11 (by decide) ?_
    refine gl_iconst (pc := 12) (nI 5) C dX5_setAwake_12 (by decide) ?_
    refine gl_callSi (pc := 13) (ctX5_in V.1 LM ok_LM M y (nI 1) (nI 5)) C dX5_setAwake_13 gX5_setAwake_X5_in rfl hdX5_in ⟨rfl, rfl, Nat.le_of_ble_eq_true rfl, Nat.le_of_ble_eq_true rfl⟩ rfl (Nat.le_of_ble_eq_true rfl) rfl ?_
    refine gl_ifne (pc := 16) 21 C dX5_setAwake_16 (by decide) (fun h16 => ?_) (fun h16 => ?_)
    · skip
      replace h16 := gl_bn.mp h16
      have hok : sp_okA x y := ⟨h7, h16⟩
      obtain ⟨c, -, hc, rfl⟩ := sp_inr_n (by omega) (by omega) h7
      have hcN : cN (nI c) = c := nI_clamp (by omega)
      refine gl_aload_0 (pc := 21) C dX5_setAwake_21 ?_
      refine gl_callVv (pc := 22) (ctX5_acts V.1 hp5 hp) C dX5_setAwake_22 gX5_setAwake_X5_acts rfl hdX5_acts ⟨rfl, rfl, Nat.le_of_ble_eq_true rfl, Nat.le_of_ble_eq_true rfl⟩ rfl (Nat.le_of_ble_eq_true rfl) rfl rfl rfl ?_
      refine gl_aload_0 (pc := 25) C dX5_setAwake_25 ?_
      refine gl_getR (pc := 26) C dX5_setAwake_26 fX5_setAwake_7 rfl rfl ?_
      refine gl_iconst (pc := 29) (nI 4) C dX5_setAwake_29 (by decide) ?_
      refine gl_iload_1 (pc := 30) C dX5_setAwake_30 ?_
      first | with_reducible refine gl_iaddN (pc := 31) C dX5_setAwake_31 ?_ | refine gl_iadd (pc := 31) C dX5_setAwake_31 ?_
      refine gl_iald (pc := 32) _ C dX5_setAwake_32 rfl rfl (by omega) ?_
      refine gl_istore_3 (pc := 33) C dX5_setAwake_33 ?_
      refine gl_aload_0 (pc := 34) C dX5_setAwake_34 ?_
      refine gl_getR (pc := 35) C dX5_setAwake_35 fX5_setAwake_7 rfl rfl ?_
      refine gl_iconst (pc := 38) (nI 4) C dX5_setAwake_38 (by decide) ?_
      refine gl_iload_1 (pc := 39) C dX5_setAwake_39 ?_
      first | with_reducible refine gl_iaddN (pc := 40) C dX5_setAwake_40 ?_ | refine gl_iadd (pc := 40) C dX5_setAwake_40 ?_
      refine gl_iload_2 (pc := 41) C dX5_setAwake_41 ?_
      refine gl_iast (pc := 42) _ C dX5_setAwake_42 rfl rfl (by omega) ?_
      refine gl_iload_3 (pc := 43) C dX5_setAwake_43 ?_
      exact gl_iret (pc := 44) C dX5_setAwake_44 (by rw [pa_awake, if_pos hok, hcN]) (by rw [if_pos hok, hcN])
    · skip
      replace h16 := gl_bz.mp h16
      have hno : ¬ sp_okA x y := fun q => h16 q.2
      refine gl_iconst (pc := 19) (-1) C dX5_setAwake_19 (by decide) ?_
      exact gl_iret (pc := 20) C dX5_setAwake_20 (by rw [pa_awake, if_neg hno]) ((if_neg hno).symm)
set_option maxRecDepth 100000 in
set_option maxHeartbeats 4000000 in
theorem ctX5_hold (F : gl_F) {n m t : Nat} {M : Nat → Int32} (w : sp_W n m t M) (ht31 : t < 2000000) {p : Nat} (hp5 : p ≤ 5) (hp : M 378 = nI p) (x y : Int32) : gl_Ct F LM yX5_hold wsX5_hold rmX5_hold [.ref (gl_r F 0), .int x, .int y] M (some (.int (pa_hold (sp_acts M p) n m x y))) (if ok_hold (sp_acts M p) m x y then upd (sp_acts M p) (iC (cN x) 4) y else M) := by
  refine gl_met (cc := cX5_hold) (maxL := 3) (ret := some .int) [some (.ref (gl_r F 0)), some (.int x), some (.int y)] (plainFor_of_name (by decide)) rfl ok_LM (by simp [Value.category]) (Nat.le_of_ble_eq_true rfl) rfl (fun V hV C => ?_)
  subst hV
  obtain ⟨hn40, hm5, hn, hm, ht, hcar, hcal⟩ := id w
  have alo := sp_acts_lo (M := M) (p := p)
  have wA := sp_W_lo alo w
  refine gl_aload_0 (pc := 0) C dX5_hold_0 ?_
  refine gl_iload_1 (pc := 1) C dX5_hold_1 ?_
  refine gl_callVi (pc := 2) (ctX5_isCar V.1 M x) C dX5_hold_2 gX5_hold_X5_isCar rfl hdX5_isCar ⟨rfl, rfl, Nat.le_of_ble_eq_true rfl, Nat.le_of_ble_eq_true rfl⟩ rfl (Nat.le_of_ble_eq_true rfl) rfl rfl rfl ?_
  refine gl_ifeq (pc := 5) 17 C dX5_hold_5 (by decide) (fun h5 => ?_) (fun h5 => ?_)
  · skip
    replace h5 := gl_bz.mp h5
    rw [hm] at h5
    have hno : ¬ (sp_has x (nI m) ∧ sp_inr y (nI 0) (nI 1)) := fun q => h5 q.1
    refine gl_iconst (pc := 17) (-1) C dX5_hold_17 (by decide) ?_
    exact gl_iret (pc := 18) C dX5_hold_18 (by rw [pa_hold, if_neg hno]) ((if_neg (fun q => hno q.1)).symm)
  · skip
    replace h5 := gl_bn.mp h5
    rw [hm] at h5
    refine gl_iload_2 (pc := 8) C dX5_hold_8 ?_
    refine gl_iconst (pc := 9) (nI 0) C dX5_hold_9 (by decide) ?_
    refine gl_iconst (pc := 10) (nI 1) C dX5_hold_10 (by decide) ?_
    refine gl_callSi (pc := 11) (ctX5_in V.1 LM ok_LM M y (nI 0) (nI 1)) C dX5_hold_11 gX5_hold_X5_in rfl hdX5_in ⟨rfl, rfl, Nat.le_of_ble_eq_true rfl, Nat.le_of_ble_eq_true rfl⟩ rfl (Nat.le_of_ble_eq_true rfl) rfl ?_
    refine gl_ifne (pc := 14) 19 C dX5_hold_14 (by decide) (fun h14 => ?_) (fun h14 => ?_)
    · skip
      replace h14 := gl_bn.mp h14
      have hok := And.intro h5 h14
      obtain ⟨c, hc, rfl⟩ := sp_has_n (by omega) h5
      have hcN : cN (nI c) = c := nI_clamp (by omega)
      have hc5 : c < 5 := by omega
      refine gl_aload_0 (pc := 19) C dX5_hold_19 ?_
      refine gl_iload_1 (pc := 20) C dX5_hold_20 ?_
      refine gl_iconst (pc := 21) (nI 4) C dX5_hold_21 (by decide) ?_
      refine gl_callVi (pc := 22) (ctX5_ofCar V.1 M c 4 (by omega) (by omega)) C dX5_hold_22 gX5_hold_X5_ofCar rfl hdX5_ofCar ⟨rfl, rfl, Nat.le_of_ble_eq_true rfl, Nat.le_of_ble_eq_true rfl⟩ rfl (Nat.le_of_ble_eq_true rfl) rfl rfl rfl ?_
      refine gl_top (alo (iC c 4) (by unfold iC; omega)).symm ?_
      refine gl_iconst (pc := 25) (nI 2) C dX5_hold_25 (by decide) ?_
      refine gl_icmp_eq (pc := 26) 39 C dX5_hold_26 (by decide) (fun h26 => ?_) (fun h26 => ?_)
      · skip
        have hq := Or.inl (b := sp_acts M p (iC c 4) = y) h26
        refine gl_bipush (pc := 39) (-2) C dX5_hold_39 (by decide +kernel) ?_
        exact gl_iret (pc := 41) C dX5_hold_41 (by rw [pa_hold, if_pos hok, hcN, if_pos hq]) ((if_neg (fun q => q.2 (by rw [hcN]; exact hq))).symm)
      · skip
        refine gl_aload_0 (pc := 29) C dX5_hold_29 ?_
        refine gl_iload_1 (pc := 30) C dX5_hold_30 ?_
        refine gl_iconst (pc := 31) (nI 4) C dX5_hold_31 (by decide) ?_
        refine gl_callVi (pc := 32) (ctX5_ofCar V.1 M c 4 (by omega) (by omega)) C dX5_hold_32 gX5_hold_X5_ofCar rfl hdX5_ofCar ⟨rfl, rfl, Nat.le_of_ble_eq_true rfl, Nat.le_of_ble_eq_true rfl⟩ rfl (Nat.le_of_ble_eq_true rfl) rfl rfl rfl ?_
        refine gl_top (alo (iC c 4) (by unfold iC; omega)).symm ?_
        refine gl_iload_2 (pc := 35) C dX5_hold_35 ?_
        refine gl_icmp_ne (pc := 36) 42 C dX5_hold_36 (by decide) (fun h36 => ?_) (fun h36 => ?_)
        · skip
          have hq : ¬ (sp_acts M p (iC c 4) = nI 2 ∨ sp_acts M p (iC c 4) = y) := fun q => q.elim h26 h36
          refine gl_aload_0 (pc := 42) C dX5_hold_42 ?_
          refine gl_callVv (pc := 43) (ctX5_acts V.1 hp5 hp) C dX5_hold_43 gX5_hold_X5_acts rfl hdX5_acts ⟨rfl, rfl, Nat.le_of_ble_eq_true rfl, Nat.le_of_ble_eq_true rfl⟩ rfl (Nat.le_of_ble_eq_true rfl) rfl rfl rfl ?_
          refine gl_aload_0 (pc := 46) C dX5_hold_46 ?_
          refine gl_iload_1 (pc := 47) C dX5_hold_47 ?_
          refine gl_iconst (pc := 48) (nI 4) C dX5_hold_48 (by decide) ?_
          refine gl_iload_2 (pc := 49) C dX5_hold_49 ?_
          refine gl_iconst (pc := 50) (nI 1) C dX5_hold_50 (by decide) ?_
          refine gl_icmp_ne (pc := 51) 58 C dX5_hold_51 (by decide) (fun h51 => ?_) (fun h51 => ?_)
          · skip
            have e0 : y = nI 0 := (sp_h01 h14).resolve_right h51
            subst e0
            refine gl_iconst (pc := 58) (nI 0) C dX5_hold_58 (by decide) ?_
            refine gl_callVv (pc := 59) (ctX5_putsCar V.1 _ c 4 (by omega) (by omega) _) C dX5_hold_59 gX5_hold_X5_putsCar rfl hdX5_putsCar ⟨rfl, rfl, Nat.le_of_ble_eq_true rfl, Nat.le_of_ble_eq_true rfl⟩ rfl (Nat.le_of_ble_eq_true rfl) rfl rfl rfl ?_
            refine gl_aload_0 (pc := 62) C dX5_hold_62 ?_
            refine gl_iload_1 (pc := 63) C dX5_hold_63 ?_
            refine gl_iconst (pc := 64) (nI 1) C dX5_hold_64 (by decide) ?_
            refine gl_callVi (pc := 65) (ctX5_many V.1 hn40 (sp_W_st wA hc _).2.2.1 (nI c) (nI 1)) C dX5_hold_65 gX5_hold_X5_many rfl hdX5_many ⟨rfl, rfl, Nat.le_of_ble_eq_true rfl, Nat.le_of_ble_eq_true rfl⟩ rfl (Nat.le_of_ble_eq_true rfl) rfl rfl rfl ?_
            refine gl_aload_0 (pc := 68) C dX5_hold_68 ?_
            refine gl_iload_1 (pc := 69) C dX5_hold_69 ?_
            refine gl_iconst (pc := 70) (nI 2) C dX5_hold_70 (by decide) ?_
            refine gl_callVi (pc := 71) (ctX5_many V.1 hn40 (sp_W_st wA hc _).2.2.1 (nI c) (nI 2)) C dX5_hold_71 gX5_hold_X5_many rfl hdX5_many ⟨rfl, rfl, Nat.le_of_ble_eq_true rfl, Nat.le_of_ble_eq_true rfl⟩ rfl (Nat.le_of_ble_eq_true rfl) rfl rfl rfl ?_
            first | with_reducible refine gl_iaddN (pc := 74) C dX5_hold_74 ?_ | refine gl_iadd (pc := 74) C dX5_hold_74 ?_
            exact gl_iret (pc := 75) C dX5_hold_75 (by rw [pa_hold, if_pos hok, hcN, if_neg hq]) (by rw [if_pos ⟨hok, by rw [hcN]; exact hq⟩, hcN])
          · skip
            subst h51
            refine gl_iconst (pc := 54) (nI 1) C dX5_hold_54 (by decide) ?_
            refine gl_goto (pc := 55) 59 C dX5_hold_55 (by decide) ?_
            refine gl_callVv (pc := 59) (ctX5_putsCar V.1 _ c 4 (by omega) (by omega) _) C dX5_hold_59 gX5_hold_X5_putsCar rfl hdX5_putsCar ⟨rfl, rfl, Nat.le_of_ble_eq_true rfl, Nat.le_of_ble_eq_true rfl⟩ rfl (Nat.le_of_ble_eq_true rfl) rfl rfl rfl ?_
            refine gl_aload_0 (pc := 62) C dX5_hold_62 ?_
            refine gl_iload_1 (pc := 63) C dX5_hold_63 ?_
            refine gl_iconst (pc := 64) (nI 1) C dX5_hold_64 (by decide) ?_
            refine gl_callVi (pc := 65) (ctX5_many V.1 hn40 (sp_W_st wA hc _).2.2.1 (nI c) (nI 1)) C dX5_hold_65 gX5_hold_X5_many rfl hdX5_many ⟨rfl, rfl, Nat.le_of_ble_eq_true rfl, Nat.le_of_ble_eq_true rfl⟩ rfl (Nat.le_of_ble_eq_true rfl) rfl rfl rfl ?_
            refine gl_aload_0 (pc := 68) C dX5_hold_68 ?_
            refine gl_iload_1 (pc := 69) C dX5_hold_69 ?_
            refine gl_iconst (pc := 70) (nI 2) C dX5_hold_70 (by decide) ?_
            refine gl_callVi (pc := 71) (ctX5_many V.1 hn40 (sp_W_st wA hc _).2.2.1 (nI c) (nI 2)) C dX5_hold_71 gX5_hold_X5_many rfl hdX5_many ⟨rfl, rfl, Nat.le_of_ble_eq_true rfl, Nat.le_of_ble_eq_true rfl⟩ rfl (Nat.le_of_ble_eq_true rfl) rfl rfl rfl ?_
            first | with_reducible refine gl_iaddN (pc := 74) C dX5_hold_74 ?_ | refine gl_iadd (pc := 74) C dX5_hold_74 ?_
            exact gl_iret (pc := 75) C dX5_hold_75 (by rw [pa_hold, if_pos hok, hcN, if_neg hq]) (by rw [if_pos ⟨hok, by rw [hcN]; exact hq⟩, hcN])
        · skip
          have hq := Or.inr (a := sp_acts M p (iC c 4) = nI 2) h36
          refine gl_bipush (pc := 39) (-2) C dX5_hold_39 (by decide +kernel) ?_
          exact gl_iret (pc := 41) C dX5_hold_41 (by rw [pa_hold, if_pos hok, hcN, if_pos hq]) ((if_neg (fun q => q.2 (by rw [hcN]; exact hq))).symm)
    · skip
      replace h14 := gl_bz.mp h14
      have hno : ¬ (sp_has x (nI m) ∧ sp_inr y (nI 0) (nI 1)) := fun q => h14 q.2
      refine gl_iconst (pc := 17) (-1) C dX5_hold_17 (by decide) ?_
      exact gl_iret (pc := 18) C dX5_hold_18 (by rw [pa_hold, if_neg hno]) ((if_neg (fun q => hno q.1)).symm)
set_option maxRecDepth 100000 in
set_option maxHeartbeats 4000000 in
theorem ctX5_fail (F : gl_F) {n m t : Nat} {M : Nat → Int32} (w : sp_W n m t M) (ht31 : t < 2000000) {p : Nat} (hp5 : p ≤ 5) (hp : M 378 = nI p) (x : Int32) : gl_Ct F LM yX5_fail wsX5_fail rmX5_fail [.ref (gl_r F 0), .int x] M (some (.int (pa_fail (sp_acts M p) n m t x))) (if ok_fail (sp_acts M p) m x then sp_fail (sp_acts M p) (cN x) t n else M) := by
  refine gl_met (cc := cX5_fail) (maxL := 2) (ret := some .int) [some (.ref (gl_r F 0)), some (.int x)] (plainFor_of_name (by decide)) rfl ok_LM (by simp [Value.category]) (Nat.le_of_ble_eq_true rfl) rfl (fun V hV C => ?_)
  subst hV
  obtain ⟨hn40, hm5, hn, hm, ht, hcar, hcal⟩ := id w
  have alo := sp_acts_lo (M := M) (p := p)
  have wA := sp_W_lo alo w
  refine gl_aload_0 (pc := 0) C dX5_fail_0 ?_
  refine gl_iload_1 (pc := 1) C dX5_fail_1 ?_
  refine gl_callVi (pc := 2) (ctX5_isCar V.1 M x) C dX5_fail_2 gX5_fail_X5_isCar rfl hdX5_isCar ⟨rfl, rfl, Nat.le_of_ble_eq_true rfl, Nat.le_of_ble_eq_true rfl⟩ rfl (Nat.le_of_ble_eq_true rfl) rfl rfl rfl ?_
  refine gl_ifne (pc := 5) 10 C dX5_fail_5 (by decide) (fun h5 => ?_) (fun h5 => ?_)
  · skip
    replace h5 := gl_bn.mp h5
    rw [hm] at h5
    have hok := h5
    obtain ⟨c, hc, rfl⟩ := sp_has_n (by omega) h5
    have hcN : cN (nI c) = c := nI_clamp (by omega)
    have hc5 : c < 5 := by omega
    refine gl_aload_0 (pc := 10) C dX5_fail_10 ?_
    refine gl_iload_1 (pc := 11) C dX5_fail_11 ?_
    refine gl_iconst (pc := 12) (nI 4) C dX5_fail_12 (by decide) ?_
    refine gl_callVi (pc := 13) (ctX5_ofCar V.1 M c 4 (by omega) (by omega)) C dX5_fail_13 gX5_fail_X5_ofCar rfl hdX5_ofCar ⟨rfl, rfl, Nat.le_of_ble_eq_true rfl, Nat.le_of_ble_eq_true rfl⟩ rfl (Nat.le_of_ble_eq_true rfl) rfl rfl rfl ?_
    refine gl_top (alo (iC c 4) (by unfold iC; omega)).symm ?_
    refine gl_iconst (pc := 16) (nI 2) C dX5_fail_16 (by decide) ?_
    refine gl_icmp_ne (pc := 17) 23 C dX5_fail_17 (by decide) (fun h17 => ?_) (fun h17 => ?_)
    · skip
      refine gl_aload_0 (pc := 23) C dX5_fail_23 ?_
      refine gl_callVv (pc := 24) (ctX5_acts V.1 hp5 hp) C dX5_fail_24 gX5_fail_X5_acts rfl hdX5_acts ⟨rfl, rfl, Nat.le_of_ble_eq_true rfl, Nat.le_of_ble_eq_true rfl⟩ rfl (Nat.le_of_ble_eq_true rfl) rfl rfl rfl ?_
      refine gl_aload_0 (pc := 27) C dX5_fail_27 ?_
      refine gl_iload_1 (pc := 28) C dX5_fail_28 ?_
      refine gl_callVv (pc := 29) (ctX5_fails V.1 wA c hc) C dX5_fail_29 gX5_fail_X5_fails rfl hdX5_fails ⟨rfl, rfl, Nat.le_of_ble_eq_true rfl, Nat.le_of_ble_eq_true rfl⟩ rfl (Nat.le_of_ble_eq_true rfl) rfl rfl rfl ?_
      refine gl_aload_0 (pc := 32) C dX5_fail_32 ?_
      refine gl_iconst (pc := 33) (nI 0) C dX5_fail_33 (by decide) ?_
      refine gl_callVi (pc := 34) (ctX5_inAll V.1 hn40 (sp_fail_W wA hc).2.2.1 (nI 0)) C dX5_fail_34 gX5_fail_X5_inAll rfl hdX5_inAll ⟨rfl, rfl, Nat.le_of_ble_eq_true rfl, Nat.le_of_ble_eq_true rfl⟩ rfl (Nat.le_of_ble_eq_true rfl) rfl rfl rfl ?_
      exact gl_iret (pc := 37) C dX5_fail_37 (by rw [pa_fail, if_pos hok, hcN, if_neg h17]) (by rw [if_pos ⟨hok, by rw [hcN]; exact h17⟩, hcN])
    · skip
      refine gl_bipush (pc := 20) (-2) C dX5_fail_20 (by decide +kernel) ?_
      exact gl_iret (pc := 22) C dX5_fail_22 (by rw [pa_fail, if_pos hok, hcN, if_pos h17]) ((if_neg (fun q => q.2 (by rw [hcN]; exact h17))).symm)
  · skip
    replace h5 := gl_bz.mp h5
    rw [hm] at h5
    refine gl_iconst (pc := 8) (-1) C dX5_fail_8 (by decide) ?_
    exact gl_iret (pc := 9) C dX5_fail_9 (by rw [pa_fail, if_neg h5]) ((if_neg (fun q => h5 q.1)).symm)
set_option maxRecDepth 100000 in
set_option maxHeartbeats 4000000 in
theorem ctX5_repair (F : gl_F) {n m t : Nat} {M : Nat → Int32} (w : sp_W n m t M) (ht31 : t < 2000000) {p : Nat} (hp5 : p ≤ 5) (hp : M 378 = nI p) (x : Int32) : gl_Ct F LM yX5_repair wsX5_repair rmX5_repair [.ref (gl_r F 0), .int x] M (some (.int (pa_repair (sp_acts M p) m x))) (if ok_repair (sp_acts M p) m x then upd (sp_acts M p) (iC (cN x) 4) (nI 0) else M) := by
  refine gl_met (cc := cX5_repair) (maxL := 2) (ret := some .int) [some (.ref (gl_r F 0)), some (.int x)] (plainFor_of_name (by decide)) rfl ok_LM (by simp [Value.category]) (Nat.le_of_ble_eq_true rfl) rfl (fun V hV C => ?_)
  subst hV
  obtain ⟨hn40, hm5, hn, hm, ht, hcar, hcal⟩ := id w
  have alo := sp_acts_lo (M := M) (p := p)
  have wA := sp_W_lo alo w
  refine gl_aload_0 (pc := 0) C dX5_repair_0 ?_
  refine gl_iload_1 (pc := 1) C dX5_repair_1 ?_
  refine gl_callVi (pc := 2) (ctX5_isCar V.1 M x) C dX5_repair_2 gX5_repair_X5_isCar rfl hdX5_isCar ⟨rfl, rfl, Nat.le_of_ble_eq_true rfl, Nat.le_of_ble_eq_true rfl⟩ rfl (Nat.le_of_ble_eq_true rfl) rfl rfl rfl ?_
  refine gl_ifne (pc := 5) 10 C dX5_repair_5 (by decide) (fun h5 => ?_) (fun h5 => ?_)
  · skip
    replace h5 := gl_bn.mp h5
    rw [hm] at h5
    have hok := h5
    obtain ⟨c, hc, rfl⟩ := sp_has_n (by omega) h5
    have hcN : cN (nI c) = c := nI_clamp (by omega)
    have hc5 : c < 5 := by omega
    refine gl_aload_0 (pc := 10) C dX5_repair_10 ?_
    refine gl_iload_1 (pc := 11) C dX5_repair_11 ?_
    refine gl_iconst (pc := 12) (nI 4) C dX5_repair_12 (by decide) ?_
    refine gl_callVi (pc := 13) (ctX5_ofCar V.1 M c 4 (by omega) (by omega)) C dX5_repair_13 gX5_repair_X5_ofCar rfl hdX5_ofCar ⟨rfl, rfl, Nat.le_of_ble_eq_true rfl, Nat.le_of_ble_eq_true rfl⟩ rfl (Nat.le_of_ble_eq_true rfl) rfl rfl rfl ?_
    refine gl_top (alo (iC c 4) (by unfold iC; omega)).symm ?_
    refine gl_iconst (pc := 16) (nI 2) C dX5_repair_16 (by decide) ?_
    refine gl_icmp_eq (pc := 17) 23 C dX5_repair_17 (by decide) (fun h17 => ?_) (fun h17 => ?_)
    · skip
      refine gl_aload_0 (pc := 23) C dX5_repair_23 ?_
      refine gl_callVv (pc := 24) (ctX5_acts V.1 hp5 hp) C dX5_repair_24 gX5_repair_X5_acts rfl hdX5_acts ⟨rfl, rfl, Nat.le_of_ble_eq_true rfl, Nat.le_of_ble_eq_true rfl⟩ rfl (Nat.le_of_ble_eq_true rfl) rfl rfl rfl ?_
      refine gl_aload_0 (pc := 27) C dX5_repair_27 ?_
      refine gl_iload_1 (pc := 28) C dX5_repair_28 ?_
      refine gl_iconst (pc := 29) (nI 4) C dX5_repair_29 (by decide) ?_
      refine gl_iconst (pc := 30) (nI 0) C dX5_repair_30 (by decide) ?_
      refine gl_callVv (pc := 31) (ctX5_putsCar V.1 _ c 4 (by omega) (by omega) _) C dX5_repair_31 gX5_repair_X5_putsCar rfl hdX5_putsCar ⟨rfl, rfl, Nat.le_of_ble_eq_true rfl, Nat.le_of_ble_eq_true rfl⟩ rfl (Nat.le_of_ble_eq_true rfl) rfl rfl rfl ?_
      refine gl_aload_0 (pc := 34) C dX5_repair_34 ?_
      refine gl_iload_1 (pc := 35) C dX5_repair_35 ?_
      refine gl_iconst (pc := 36) (nI 3) C dX5_repair_36 (by decide) ?_
      refine gl_callVi (pc := 37) (ctX5_ofCar V.1 _ c 3 (by omega) (by omega)) C dX5_repair_37 gX5_repair_X5_ofCar rfl hdX5_ofCar ⟨rfl, rfl, Nat.le_of_ble_eq_true rfl, Nat.le_of_ble_eq_true rfl⟩ rfl (Nat.le_of_ble_eq_true rfl) rfl rfl rfl ?_
      refine gl_top (rC (by omega) (by omega) (by omega)) ?_
      exact gl_iret (pc := 40) C dX5_repair_40 (by rw [pa_repair, if_pos hok, hcN, if_pos h17]) (by rw [if_pos ⟨hok, by rw [hcN]; exact h17⟩, hcN])
    · skip
      refine gl_bipush (pc := 20) (-2) C dX5_repair_20 (by decide +kernel) ?_
      exact gl_iret (pc := 22) C dX5_repair_22 (by rw [pa_repair, if_pos hok, hcN, if_neg h17]) ((if_neg (fun q => h17 (by rw [← hcN]; exact q.2))).symm)
  · skip
    replace h5 := gl_bz.mp h5
    rw [hm] at h5
    refine gl_iconst (pc := 8) (-1) C dX5_repair_8 (by decide) ?_
    exact gl_iret (pc := 9) C dX5_repair_9 (by rw [pa_repair, if_neg h5]) ((if_neg (fun q => h5 q.1)).symm)
set_option maxRecDepth 100000 in
set_option maxHeartbeats 4000000 in
theorem ctX5_call (F : gl_F) {n m t : Nat} {M : Nat → Int32} (w : sp_W n m t M) (ht31 : t < 2000000) {p : Nat} (hp5 : p ≤ 5) (hp : M 378 = nI p) (f g : Int32) : gl_Ct F LM yX5_call wsX5_call rmX5_call [.ref (gl_r F 0), .int f, .int g] M (some (.int (pa_call n f g))) (if sp_way f g ∧ ¬ n = 40 then sp_call (sp_acts M p) n m t f g else M) := by
  refine gl_met (cc := cX5_call) (maxL := 4) (ret := some .int) [some (.ref (gl_r F 0)), some (.int f), some (.int g), none] (plainFor_of_name (by decide)) rfl ok_LM (by simp [Value.category]) (Nat.le_of_ble_eq_true rfl) rfl (fun V hV C => ?_)
  subst hV
  obtain ⟨hn40, hm5, hn, hm, ht, hcar, hcal⟩ := id w
  have alo := sp_acts_lo (M := M) (p := p)
  have wA := sp_W_lo alo w
  refine gl_iload_1 (pc := 0) C dX5_call_0 ?_
  refine gl_iload_2 (pc := 1) C dX5_call_1 ?_
  refine gl_callSi (pc := 2) (ctX5_isWay V.1 M f g) C dX5_call_2 gX5_call_X5_isWay rfl hdX5_isWay ⟨rfl, rfl, Nat.le_of_ble_eq_true rfl, Nat.le_of_ble_eq_true rfl⟩ rfl (Nat.le_of_ble_eq_true rfl) rfl ?_
  refine gl_ifne (pc := 5) 10 C dX5_call_5 (by decide) (fun h5 => ?_) (fun h5 => ?_)
  · skip
    replace h5 := gl_bn.mp h5
    refine gl_aload_0 (pc := 10) C dX5_call_10 ?_
    refine gl_getR (pc := 11) C dX5_call_11 fX5_call_7 rfl rfl ?_
    refine gl_iconst (pc := 14) (nI 2) C dX5_call_14 (by decide) ?_
    refine gl_iald (pc := 15) _ C dX5_call_15 rfl rfl (by omega) ?_
    refine gl_top hn ?_
    refine gl_bipush (pc := 16) (nI 40) C dX5_call_16 (by decide +kernel) ?_
    refine gl_icmp_ne (pc := 18) 24 C dX5_call_18 (by decide) (fun h18 => ?_) (fun h18 => ?_)
    · skip
      have hq : ¬ n = 40 := fun q => h18 (by rw [q])
      refine gl_aload_0 (pc := 24) C dX5_call_24 ?_
      refine gl_callVv (pc := 25) (ctX5_acts V.1 hp5 hp) C dX5_call_25 gX5_call_X5_acts rfl hdX5_acts ⟨rfl, rfl, Nat.le_of_ble_eq_true rfl, Nat.le_of_ble_eq_true rfl⟩ rfl (Nat.le_of_ble_eq_true rfl) rfl rfl rfl ?_
      refine gl_aload_0 (pc := 28) C dX5_call_28 ?_
      refine gl_getR (pc := 29) C dX5_call_29 fX5_call_7 rfl rfl ?_
      refine gl_iconst (pc := 32) (nI 2) C dX5_call_32 (by decide) ?_
      refine gl_iald (pc := 33) _ C dX5_call_33 rfl rfl (by omega) ?_
      refine gl_top wA.2.2.1 ?_
      refine gl_istore_3 (pc := 34) C dX5_call_34 ?_
      refine gl_aload_0 (pc := 35) C dX5_call_35 ?_
      refine gl_iload_3 (pc := 36) C dX5_call_36 ?_
      refine gl_iconst (pc := 37) (nI 0) C dX5_call_37 (by decide) ?_
      refine gl_iload_1 (pc := 38) C dX5_call_38 ?_
      refine gl_callVv (pc := 39) (ctX5_puts V.1 _ n 0 (by omega) (by omega) _) C dX5_call_39 gX5_call_X5_puts rfl hdX5_puts ⟨rfl, rfl, Nat.le_of_ble_eq_true rfl, Nat.le_of_ble_eq_true rfl⟩ rfl (Nat.le_of_ble_eq_true rfl) rfl rfl rfl ?_
      refine gl_aload_0 (pc := 42) C dX5_call_42 ?_
      refine gl_iload_3 (pc := 43) C dX5_call_43 ?_
      refine gl_iconst (pc := 44) (nI 1) C dX5_call_44 (by decide) ?_
      refine gl_iload_2 (pc := 45) C dX5_call_45 ?_
      refine gl_callVv (pc := 46) (ctX5_puts V.1 _ n 1 (by omega) (by omega) _) C dX5_call_46 gX5_call_X5_puts rfl hdX5_puts ⟨rfl, rfl, Nat.le_of_ble_eq_true rfl, Nat.le_of_ble_eq_true rfl⟩ rfl (Nat.le_of_ble_eq_true rfl) rfl rfl rfl ?_
      refine gl_aload_0 (pc := 49) C dX5_call_49 ?_
      refine gl_iload_3 (pc := 50) C dX5_call_50 ?_
      refine gl_iconst (pc := 51) (nI 2) C dX5_call_51 (by decide) ?_
      refine gl_iconst (pc := 52) (nI 0) C dX5_call_52 (by decide) ?_
      refine gl_callVv (pc := 53) (ctX5_puts V.1 _ n 2 (by omega) (by omega) _) C dX5_call_53 gX5_call_X5_puts rfl hdX5_puts ⟨rfl, rfl, Nat.le_of_ble_eq_true rfl, Nat.le_of_ble_eq_true rfl⟩ rfl (Nat.le_of_ble_eq_true rfl) rfl rfl rfl ?_
      refine gl_aload_0 (pc := 56) C dX5_call_56 ?_
      refine gl_iload_3 (pc := 57) C dX5_call_57 ?_
      refine gl_iconst (pc := 58) (nI 3) C dX5_call_58 (by decide) ?_
      refine gl_bipush (pc := 59) (-9) C dX5_call_59 (by decide +kernel) ?_
      refine gl_callVv (pc := 61) (ctX5_puts V.1 _ n 3 (by omega) (by omega) _) C dX5_call_61 gX5_call_X5_puts rfl hdX5_puts ⟨rfl, rfl, Nat.le_of_ble_eq_true rfl, Nat.le_of_ble_eq_true rfl⟩ rfl (Nat.le_of_ble_eq_true rfl) rfl rfl rfl ?_
      refine gl_aload_0 (pc := 64) C dX5_call_64 ?_
      refine gl_iload_3 (pc := 65) C dX5_call_65 ?_
      refine gl_iconst (pc := 66) (nI 4) C dX5_call_66 (by decide) ?_
      refine gl_aload_0 (pc := 67) C dX5_call_67 ?_
      refine gl_getR (pc := 68) C dX5_call_68 fX5_call_7 rfl rfl ?_
      refine gl_iconst (pc := 71) (nI 0) C dX5_call_71 (by decide) ?_
      refine gl_iald (pc := 72) _ C dX5_call_72 rfl rfl (by omega) ?_
      refine gl_top ((gl_upd_ne (by unfold iK; omega)).trans ((gl_upd_ne (by unfold iK; omega)).trans ((gl_upd_ne (by unfold iK; omega)).trans ((gl_upd_ne (by unfold iK; omega)).trans wA.2.2.2.2.1)))) ?_
      refine gl_callVv (pc := 73) (ctX5_puts V.1 _ n 4 (by omega) (by omega) _) C dX5_call_73 gX5_call_X5_puts rfl hdX5_puts ⟨rfl, rfl, Nat.le_of_ble_eq_true rfl, Nat.le_of_ble_eq_true rfl⟩ rfl (Nat.le_of_ble_eq_true rfl) rfl rfl rfl ?_
      refine gl_aload_0 (pc := 76) C dX5_call_76 ?_
      refine gl_iload_3 (pc := 77) C dX5_call_77 ?_
      refine gl_iconst (pc := 78) (nI 5) C dX5_call_78 (by decide) ?_
      refine gl_bipush (pc := 79) (-9) C dX5_call_79 (by decide +kernel) ?_
      refine gl_callVv (pc := 81) (ctX5_puts V.1 _ n 5 (by omega) (by omega) _) C dX5_call_81 gX5_call_X5_puts rfl hdX5_puts ⟨rfl, rfl, Nat.le_of_ble_eq_true rfl, Nat.le_of_ble_eq_true rfl⟩ rfl (Nat.le_of_ble_eq_true rfl) rfl rfl rfl ?_
      refine gl_aload_0 (pc := 84) C dX5_call_84 ?_
      refine gl_iload_3 (pc := 85) C dX5_call_85 ?_
      refine gl_bipush (pc := 86) (nI 6) C dX5_call_86 (by decide +kernel) ?_
      refine gl_bipush (pc := 88) (-9) C dX5_call_88 (by decide +kernel) ?_
      refine gl_callVv (pc := 90) (ctX5_puts V.1 _ n 6 (by omega) (by omega) _) C dX5_call_90 gX5_call_X5_puts rfl hdX5_puts ⟨rfl, rfl, Nat.le_of_ble_eq_true rfl, Nat.le_of_ble_eq_true rfl⟩ rfl (Nat.le_of_ble_eq_true rfl) rfl rfl rfl ?_
      refine gl_aload_0 (pc := 93) C dX5_call_93 ?_
      refine gl_iload_3 (pc := 94) C dX5_call_94 ?_
      refine gl_bipush (pc := 95) (nI 7) C dX5_call_95 (by decide +kernel) ?_
      refine gl_iconst (pc := 97) (nI 0) C dX5_call_97 (by decide) ?_
      refine gl_callVv (pc := 98) (ctX5_puts V.1 _ n 7 (by omega) (by omega) _) C dX5_call_98 gX5_call_X5_puts rfl hdX5_puts ⟨rfl, rfl, Nat.le_of_ble_eq_true rfl, Nat.le_of_ble_eq_true rfl⟩ rfl (Nat.le_of_ble_eq_true rfl) rfl rfl rfl ?_
      refine gl_aload_0 (pc := 101) C dX5_call_101 ?_
      refine gl_getR (pc := 102) C dX5_call_102 fX5_call_7 rfl rfl ?_
      refine gl_iconst (pc := 105) (nI 2) C dX5_call_105 (by decide) ?_
      refine gl_dup2 (pc := 106) C dX5_call_106 ?_
      refine gl_iald (pc := 107) _ C dX5_call_107 rfl rfl (by omega) ?_
      refine gl_top ((gl_upd_ne (by unfold iK; omega)).trans ((gl_upd_ne (by unfold iK; omega)).trans ((gl_upd_ne (by unfold iK; omega)).trans ((gl_upd_ne (by unfold iK; omega)).trans ((gl_upd_ne (by unfold iK; omega)).trans ((gl_upd_ne (by unfold iK; omega)).trans ((gl_upd_ne (by unfold iK; omega)).trans ((gl_upd_ne (by unfold iK; omega)).trans wA.2.2.1)))))))) ?_
      refine gl_iconst (pc := 108) (nI 1) C dX5_call_108 (by decide) ?_
      first | with_reducible refine gl_iaddN (pc := 109) C dX5_call_109 ?_ | refine gl_iadd (pc := 109) C dX5_call_109 ?_
      refine gl_iast (pc := 110) _ C dX5_call_110 rfl rfl (by omega) ?_
      refine gl_mem (M1 := sp_addK (sp_acts M p) n f g (nI t)) rfl ?_
      have wK := sp_addK_W wA (by omega) (sp_isf_fl h5.1) (sp_isf_fl h5.2.1) (tk := nI t)
      obtain ⟨a0, a1, -⟩ := sp_addK_0 (M := sp_acts M p) (n := n) (f := f) (g := g) (tk := nI t)
      refine gl_aload_0 (pc := 111) C dX5_call_111 ?_
      refine gl_iload_3 (pc := 112) C dX5_call_112 ?_
      refine gl_callVv (pc := 113) (ctX5_gives V.1 wK (by omega) n (by omega)) C dX5_call_113 gX5_call_X5_gives rfl hdX5_gives ⟨rfl, rfl, Nat.le_of_ble_eq_true rfl, Nat.le_of_ble_eq_true rfl⟩ rfl (Nat.le_of_ble_eq_true rfl) rfl rfl rfl ?_
      refine gl_iload_3 (pc := 116) C dX5_call_116 ?_
      exact gl_iret (pc := 117) C dX5_call_117 (by rw [pa_call, if_pos h5, if_neg hq]) (by rw [if_pos ⟨h5, hq⟩, sp_call, a0, a1, sp_addK_best m hm5])
    · skip
      have hq : n = 40 := (nI_eq (by omega) (by omega)).mp h18
      refine gl_bipush (pc := 21) (-3) C dX5_call_21 (by decide +kernel) ?_
      exact gl_iret (pc := 23) C dX5_call_23 (by rw [pa_call, if_pos h5, if_pos hq]) ((if_neg (fun q => q.2 hq)).symm)
  · skip
    replace h5 := gl_bz.mp h5
    refine gl_iconst (pc := 8) (-1) C dX5_call_8 (by decide) ?_
    exact gl_iret (pc := 9) C dX5_call_9 (by rw [pa_call, if_neg h5]) ((if_neg (fun q => h5 q.1)).symm)
set_option maxRecDepth 100000 in
set_option maxHeartbeats 4000000 in
theorem ctX5_pass (F : gl_F) {n m t : Nat} {M : Nat → Int32} (w : sp_W n m t M) (ht31 : t < 2000000) {p : Nat} (hp5 : p ≤ 5) (hp : M 378 = nI p) (x : Int32) : gl_Ct F LM yX5_pass wsX5_pass rmX5_pass [.ref (gl_r F 0), .int x] M (some (.int (pa_pass (sp_acts M p) n m t x))) (if ok_pass t x then sp_run (sp_acts M p) t n m (cN x) else M) := by
  refine gl_met (cc := cX5_pass) (maxL := 3) (ret := some .int) [some (.ref (gl_r F 0)), some (.int x), none] (plainFor_of_name (by decide)) rfl ok_LM (by simp [Value.category]) (Nat.le_of_ble_eq_true rfl) rfl (fun V hV C => ?_)
  subst hV
  obtain ⟨hn40, hm5, hn, hm, ht, hcar, hcal⟩ := id w
  have alo := sp_acts_lo (M := M) (p := p)
  have wA := sp_W_lo alo w
  refine gl_iload_1 (pc := 0) C dX5_pass_0 ?_
  refine gl_iconst (pc := 1) (nI 1) C dX5_pass_1 (by decide) ?_
  refine gl_sipush (pc := 2) (nI 200) C dX5_pass_2 (by decide +kernel) ?_
  refine gl_callSi (pc := 5) (ctX5_in V.1 LM ok_LM M x (nI 1) (nI 200)) C dX5_pass_5 gX5_pass_X5_in rfl hdX5_in ⟨rfl, rfl, Nat.le_of_ble_eq_true rfl, Nat.le_of_ble_eq_true rfl⟩ rfl (Nat.le_of_ble_eq_true rfl) rfl ?_
  refine gl_ifne (pc := 8) 13 C dX5_pass_8 (by decide) (fun h8 => ?_) (fun h8 => ?_)
  · skip
    replace h8 := gl_bn.mp h8
    refine gl_aload_0 (pc := 13) C dX5_pass_13 ?_
    refine gl_getR (pc := 14) C dX5_pass_14 fX5_pass_7 rfl rfl ?_
    refine gl_iconst (pc := 17) (nI 0) C dX5_pass_17 (by decide) ?_
    refine gl_iald (pc := 18) _ C dX5_pass_18 rfl rfl (by omega) ?_
    refine gl_top ht ?_
    refine gl_iload_1 (pc := 19) C dX5_pass_19 ?_
    first | with_reducible refine gl_iaddN (pc := 20) C dX5_pass_20 ?_ | refine gl_iadd (pc := 20) C dX5_pass_20 ?_
    refine gl_sipush (pc := 21) (nI 20000) C dX5_pass_21 (by decide +kernel) ?_
    refine gl_icmp_le (pc := 24) 30 C dX5_pass_24 (by decide) (fun h24 => ?_) (fun h24 => ?_)
    · skip
      replace h24 := Int32.not_lt.mpr h24
      have hok := h8
      obtain ⟨j, -, hj, rfl⟩ := sp_inr_n (by omega) (by omega) h8
      have hcN : cN (nI j) = j := nI_clamp (by omega)
      refine gl_aload_0 (pc := 30) C dX5_pass_30 ?_
      refine gl_callVv (pc := 31) (ctX5_acts V.1 hp5 hp) C dX5_pass_31 gX5_pass_X5_acts rfl hdX5_acts ⟨rfl, rfl, Nat.le_of_ble_eq_true rfl, Nat.le_of_ble_eq_true rfl⟩ rfl (Nat.le_of_ble_eq_true rfl) rfl rfl rfl ?_
      refine gl_iconst (pc := 34) (nI 0) C dX5_pass_34 (by decide) ?_
      refine gl_istore_2 (pc := 35) C dX5_pass_35 ?_
      refine gl_loop (pc := 36) (n := j) (fun k => [some (.ref (gl_r V.1 0)), some (.int (nI j)), some (.int (nI k))]) (fun k => sp_run (sp_acts M p) t n m k) (fun k => True) 0 (Nat.zero_le _) (trivial) (gl_le_c (rfl) (gl_le_c (rfl) (gl_le_c (rfl) (gl_le_n)))) (rfl) (fun hI => ?_) (fun k hk hI ih => ?_)
      · skip
        refine gl_iload_2 (pc := 36) C dX5_pass_36 ?_
        refine gl_iload_1 (pc := 37) C dX5_pass_37 ?_
        refine gl_icmp_ge (pc := 38) 51 C dX5_pass_38 (by decide) (fun h38 => ?_) (fun h38 => absurd h38 (gl_xge))
        refine gl_aload_0 (pc := 51) C dX5_pass_51 ?_
        refine gl_iconst (pc := 52) (nI 3) C dX5_pass_52 (by decide) ?_
        refine gl_callVi (pc := 53) (ctX5_inAll V.1 hn40 (sp_run_W wA j).2.2.1 (nI 3)) C dX5_pass_53 gX5_pass_X5_inAll rfl hdX5_inAll ⟨rfl, rfl, Nat.le_of_ble_eq_true rfl, Nat.le_of_ble_eq_true rfl⟩ rfl (Nat.le_of_ble_eq_true rfl) rfl rfl rfl ?_
        exact gl_iret (pc := 56) C dX5_pass_56 (by rw [pa_pass, if_pos hok, if_neg h24, hcN]) (by rw [if_pos ⟨hok, h24⟩, hcN])
      · skip
        refine gl_iload_2 (pc := 36) C dX5_pass_36 ?_
        refine gl_iload_1 (pc := 37) C dX5_pass_37 ?_
        refine gl_icmp_ge (pc := 38) 51 C dX5_pass_38 (by decide) (fun h38 => absurd h38 (nI_ge hk (by omega))) (fun h38 => ?_)
        refine gl_aload_0 (pc := 41) C dX5_pass_41 ?_
        refine gl_callVv (pc := 42) (ctX5_ticks V.1 (sp_run_W wA k) (by omega)) C dX5_pass_42 gX5_pass_X5_ticks rfl hdX5_ticks ⟨rfl, rfl, Nat.le_of_ble_eq_true rfl, Nat.le_of_ble_eq_true rfl⟩ rfl (Nat.le_of_ble_eq_true rfl) rfl rfl rfl ?_
        first | with_reducible refine gl_iincN_2 (pc := 45) gl_i1 C dX5_pass_45 ?_ | refine gl_iinc_2 (pc := 45) C dX5_pass_45 (gl_inc1 _) ?_
        refine gl_goto (pc := 48) 36 C dX5_pass_48 (by decide) ?_
        exact gl_on (ih (trivial)) (gl_le_c (rfl) (gl_le_c (rfl) (gl_le_c (rfl) (gl_le_n)))) (rfl)
    · skip
      replace h24 := Int32.not_le.mp h24
      refine gl_bipush (pc := 27) (-2) C dX5_pass_27 (by decide +kernel) ?_
      exact gl_iret (pc := 29) C dX5_pass_29 (by rw [pa_pass, if_pos h8, if_pos h24]) ((if_neg (fun q => q.2 h24)).symm)
  · skip
    replace h8 := gl_bz.mp h8
    refine gl_iconst (pc := 11) (-1) C dX5_pass_11 (by decide) ?_
    exact gl_iret (pc := 12) C dX5_pass_12 (by rw [pa_pass, if_neg h8]) ((if_neg (fun q => h8 q.1)).symm)
set_option maxRecDepth 100000 in
set_option maxHeartbeats 4000000 in
theorem ctX5_undo (F : gl_F) {n m t : Nat} {M : Nat → Int32} (w : sp_W n m t M) (ht31 : t < 2000000) {p : Nat} (hp5 : p ≤ 5) (hp : M 378 = nI p) : gl_Ct F LM yX5_undo wsX5_undo rmX5_undo [.ref (gl_r F 0)] M (some (.int (pa_undo p))) (if p = 0 then M else sp_undo M p) := by
  refine gl_met (cc := cX5_undo) (maxL := 2) (ret := some .int) [some (.ref (gl_r F 0)), none] (plainFor_of_name (by decide)) rfl ok_LM (by simp [Value.category]) (Nat.le_of_ble_eq_true rfl) rfl (fun V hV C => ?_)
  subst hV
  obtain ⟨hn40, hm5, hn, hm, ht, hcar, hcal⟩ := id w
  refine gl_aload_0 (pc := 0) C dX5_undo_0 ?_
  refine gl_getI (pc := 1) C dX5_undo_1 fX5_undo_22 rfl rfl ?_
  refine gl_top hp ?_
  refine gl_ifne (pc := 4) 10 C dX5_undo_4 (by decide) (fun h4 => ?_) (fun h4 => ?_)
  · skip
    have hq : ¬ p = 0 := fun q => h4 (by rw [q]; exact nI_0')
    refine gl_aload_0 (pc := 10) C dX5_undo_10 ?_
    first | refine gl_dupR (pc := 11) C dX5_undo_11 ?_ | refine gl_dupI (pc := 11) C dX5_undo_11 ?_
    refine gl_getI (pc := 12) C dX5_undo_12 fX5_undo_22 rfl rfl ?_
    refine gl_top hp ?_
    refine gl_iconst (pc := 15) (nI 1) C dX5_undo_15 (by decide) ?_
    refine gl_isub (pc := 16) C dX5_undo_16 ?_
    refine gl_top (pk_sub (by omega)) ?_
    refine gl_put (pc := 17) C dX5_undo_17 pX5_undo_22 rfl rfl ?_
    obtain ⟨b, eb, hb⟩ : ∃ b, b = 1200 + 378 * (p - 1) ∧ 378 ≤ b := ⟨_, rfl, by omega⟩
    obtain ⟨MB, eM⟩ : ∃ MB : Nat → Int32, MB = upd M 378 (nI (p - 1)) := ⟨_, rfl⟩
    obtain ⟨r, er, hr5, hMr⟩ : ∃ r, r = p - 1 ∧ r < 5 ∧ MB 378 = nI r := ⟨p - 1, rfl, by omega, by rw [eM, gl_upd_eq]⟩
    refine gl_mem eM.symm ?_
    have ebr : b = 1200 + 378 * r := by rw [er]; exact eb
    have fin : sp_back MB b 378 = sp_undo M p := by rw [sp_undo, eM, eb]
    refine gl_iconst (pc := 20) (nI 0) C dX5_undo_20 (by decide) ?_
    refine gl_istore_1 (pc := 21) C dX5_undo_21 ?_
    refine gl_loop (pc := 22) (n := 378) (fun k => [some (.ref (gl_r V.1 0)), some (.int (nI k))]) (fun k => sp_back MB b k) (fun k => True) 0 (Nat.zero_le _) (trivial) (gl_le_c (rfl) (gl_le_c (rfl) (gl_le_n))) (sp_back_0.symm) (fun hI => ?_) (fun k hk hI ih => ?_)
    · skip
      refine gl_iload_1 (pc := 22) C dX5_undo_22 ?_
      refine gl_sipush (pc := 23) (nI 378) C dX5_undo_23 (by decide +kernel) ?_
      refine gl_icmp_ge (pc := 26) 56 C dX5_undo_26 (by decide) (fun h26 => ?_) (fun h26 => absurd h26 (gl_xge))
      refine gl_aload_0 (pc := 56) C dX5_undo_56 ?_
      refine gl_getI (pc := 57) C dX5_undo_57 fX5_undo_22 rfl rfl ?_
      refine gl_top (show sp_back MB b 378 378 = nI r by unfold sp_back; rw [if_neg (by omega)]; exact hMr) ?_
      exact gl_iret (pc := 60) C dX5_undo_60 (by rw [pa_undo, if_neg hq, er]) (by rw [if_neg hq]; exact fin)
    · skip
      refine gl_iload_1 (pc := 22) C dX5_undo_22 ?_
      refine gl_sipush (pc := 23) (nI 378) C dX5_undo_23 (by decide +kernel) ?_
      refine gl_icmp_ge (pc := 26) 56 C dX5_undo_26 (by decide) (fun h26 => absurd h26 (nI_ge hk (by omega))) (fun h26 => ?_)
      refine gl_aload_0 (pc := 29) C dX5_undo_29 ?_
      refine gl_getR (pc := 30) C dX5_undo_30 fX5_undo_7 rfl rfl ?_
      refine gl_iload_1 (pc := 33) C dX5_undo_33 ?_
      refine gl_aload_0 (pc := 34) C dX5_undo_34 ?_
      refine gl_getR (pc := 35) C dX5_undo_35 fX5_undo_13 rfl rfl ?_
      refine gl_sipush (pc := 38) (nI 378) C dX5_undo_38 (by decide +kernel) ?_
      refine gl_aload_0 (pc := 41) C dX5_undo_41 ?_
      refine gl_getI (pc := 42) C dX5_undo_42 fX5_undo_22 rfl rfl ?_
      refine gl_top (show sp_back MB b k 378 = nI r by unfold sp_back; rw [if_neg (by omega)]; exact hMr) ?_
      first | with_reducible refine gl_imulN (pc := 45) C dX5_undo_45 ?_ | refine gl_imul (pc := 45) C dX5_undo_45 ?_
      refine gl_iload_1 (pc := 46) C dX5_undo_46 ?_
      first | with_reducible refine gl_iaddN (pc := 47) C dX5_undo_47 ?_ | refine gl_iadd (pc := 47) C dX5_undo_47 ?_
      refine gl_iald (pc := 48) _ C dX5_undo_48 rfl rfl (by omega) ?_
      refine gl_iast (pc := 49) _ C dX5_undo_49 rfl rfl (by omega) ?_
      first | with_reducible refine gl_iincN_1 (pc := 50) gl_i1 C dX5_undo_50 ?_ | refine gl_iinc_1 (pc := 50) C dX5_undo_50 (gl_inc1 _) ?_
      refine gl_goto (pc := 53) 22 C dX5_undo_53 (by decide) ?_
      exact gl_on (ih (trivial)) (gl_le_c (rfl) (gl_le_c (rfl) (gl_le_n))) (by rw [← Nat.add_assoc, ← ebr]; exact sp_back_1 hb hk)
  · skip
    have hq : p = 0 := (nI_eq (by omega) (by omega)).mp (h4.trans nI_0'.symm)
    refine gl_bipush (pc := 7) (-2) C dX5_undo_7 (by decide +kernel) ?_
    exact gl_iret (pc := 9) C dX5_undo_9 (by rw [pa_undo, if_pos hq]) ((if_pos hq).symm)
