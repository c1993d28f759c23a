theorem fX2_keep_11 : gl_fl wsX2_keep RX2 11 2 2 := ⟨RX2, TX2, 3, RX2, rfl, by decide, by decide +kernel, by decide +kernel, rfl⟩
theorem fX2_keep_18 : gl_fl wsX2_keep RX2 18 2 1 := ⟨RX2, TX2, 3, RX2, rfl, by decide, by decide +kernel, by decide +kernel, rfl⟩
theorem pX2_keep_18 : gl_fp wsX2_keep RX2 18 2 1 := ⟨RX2, TX2, 3, RX2, tyX2, rfl, by decide, by decide +kernel, by decide +kernel, rfl, tyX2_ok, nmX2, rfl, rfl⟩
theorem fX2_keep_32 : gl_fl wsX2_keep RX2 32 2 0 := ⟨RX2, TX2, 3, RX2, rfl, by decide, by decide +kernel, by decide +kernel, rfl⟩
theorem pX2_keep_32 : gl_fp wsX2_keep RX2 32 2 0 := ⟨RX2, TX2, 3, RX2, tyX2, rfl, by decide, by decide +kernel, by decide +kernel, rfl, tyX2_ok, nmX2, rfl, rfl⟩
set_option maxRecDepth 100000 in
set_option maxHeartbeats 4000000 in
theorem ctX4_isFloor (F : gl_F) (M : Nat → Int32) (f : Int32) : gl_Ct F LC yX4_isFloor wsX4_isFloor rmX4_isFloor [.int f] M (some (.int (if sp_isf f then nI 1 else nI 0))) (M) := by
  refine gl_met (cc := cX4_isFloor) (maxL := 1) (ret := some .boolean) [some (.int f)] (plainFor_of_name (by decide)) rfl ok_LC (by simp [Value.category]) (Nat.le_of_ble_eq_true rfl) rfl (fun V hV C => ?_)
  subst hV
  refine gl_iload_0 (pc := 0) C dX4_isFloor_0 ?_
  refine gl_iflt (pc := 1) 14 C dX4_isFloor_1 (by decide) (fun h1 => ?_) (fun h1 => ?_)
  · skip
    refine gl_iconst (pc := 14) (nI 0) C dX4_isFloor_14 (by decide) ?_
    exact gl_zret (pc := 15) C dX4_isFloor_15 (by rfl) (by simp only [sp_isf]; simp [*]) (rfl)
  · skip
    refine gl_iload_0 (pc := 4) C dX4_isFloor_4 ?_
    refine gl_bipush (pc := 5) (nI 16) C dX4_isFloor_5 (by decide +kernel) ?_
    refine gl_icmp_ge (pc := 7) 14 C dX4_isFloor_7 (by decide) (fun h7 => ?_) (fun h7 => ?_)
    · skip
      refine gl_iconst (pc := 14) (nI 0) C dX4_isFloor_14 (by decide) ?_
      exact gl_zret (pc := 15) C dX4_isFloor_15 (by rfl) (by simp only [sp_isf]; simp [*]) (rfl)
    · skip
      refine gl_iconst (pc := 10) (nI 1) C dX4_isFloor_10 (by decide) ?_
      refine gl_goto (pc := 11) 15 C dX4_isFloor_11 (by decide) ?_
      exact gl_zret (pc := 15) C dX4_isFloor_15 (by rfl) (by simp only [sp_isf]; simp [*]) (rfl)
set_option maxRecDepth 100000 in
set_option maxHeartbeats 4000000 in
theorem ctX4_isWay (F : gl_F) (M : Nat → Int32) (f g : Int32) : gl_Ct F LC yX4_isWay wsX4_isWay rmX4_isWay [.int f, .int g] M (some (.int (if sp_way f g then nI 1 else nI 0))) (M) := by
  refine gl_met (cc := cX4_isWay) (maxL := 2) (ret := some .boolean) [some (.int f), some (.int g)] (plainFor_of_name (by decide)) rfl ok_LC (by simp [Value.category]) (Nat.le_of_ble_eq_true rfl) rfl (fun V hV C => ?_)
  subst hV
  refine gl_iload_0 (pc := 0) C dX4_isWay_0 ?_
  refine gl_callSi (pc := 1) (ctX4_isFloor V.1 M f) C dX4_isWay_1 gX4_isWay_X4_isFloor rfl hdX4_isFloor ⟨rfl, rfl, Nat.le_of_ble_eq_true rfl, Nat.le_of_ble_eq_true rfl⟩ rfl (Nat.le_of_ble_eq_true rfl) rfl ?_
  refine gl_ifeq (pc := 4) 23 C dX4_isWay_4 (by decide) (fun h4 => ?_) (fun h4 => ?_)
  · skip
    replace h4 := gl_bz.mp h4
    refine gl_iconst (pc := 23) (nI 0) C dX4_isWay_23 (by decide) ?_
    exact gl_zret (pc := 24) C dX4_isWay_24 (by rfl) (by grind) (rfl)
  · skip
    replace h4 := gl_bn.mp h4
    refine gl_iload_1 (pc := 7) C dX4_isWay_7 ?_
    refine gl_callSi (pc := 8) (ctX4_isFloor V.1 M g) C dX4_isWay_8 gX4_isWay_X4_isFloor rfl hdX4_isFloor ⟨rfl, rfl, Nat.le_of_ble_eq_true rfl, Nat.le_of_ble_eq_true rfl⟩ rfl (Nat.le_of_ble_eq_true rfl) rfl ?_
    refine gl_ifeq (pc := 11) 23 C dX4_isWay_11 (by decide) (fun h11 => ?_) (fun h11 => ?_)
    · skip
      replace h11 := gl_bz.mp h11
      refine gl_iconst (pc := 23) (nI 0) C dX4_isWay_23 (by decide) ?_
      exact gl_zret (pc := 24) C dX4_isWay_24 (by rfl) (by grind) (rfl)
    · skip
      replace h11 := gl_bn.mp h11
      refine gl_iload_0 (pc := 14) C dX4_isWay_14 ?_
      refine gl_iload_1 (pc := 15) C dX4_isWay_15 ?_
      refine gl_icmp_eq (pc := 16) 23 C dX4_isWay_16 (by decide) (fun h16 => ?_) (fun h16 => ?_)
      · skip
        refine gl_iconst (pc := 23) (nI 0) C dX4_isWay_23 (by decide) ?_
        exact gl_zret (pc := 24) C dX4_isWay_24 (by rfl) (by grind) (rfl)
      · skip
        refine gl_iconst (pc := 19) (nI 1) C dX4_isWay_19 (by decide) ?_
        refine gl_goto (pc := 20) 24 C dX4_isWay_20 (by decide) ?_
        exact gl_zret (pc := 24) C dX4_isWay_24 (by rfl) (by grind) (rfl)
set_option maxRecDepth 100000 in
set_option maxHeartbeats 4000000 in
theorem ctX2_keep_0 (F : gl_F) (M : Nat → Int32) {p : Nat} (hp5 : p ≤ 5) (hp : M 2646 = nI p) (hq : M 2647 = nI 0) : gl_Ct F LC yX2_keep wsX2_keep rmX2_keep [.ref (gl_r F 127), .ref (gl_r F 0)] M (none) (sp_keepC M p 0) := by
  refine gl_met (cc := cX2_keep) (maxL := 3) (ret := none) [some (.ref (gl_r F 127)), some (.ref (gl_r F 0)), none] (plainFor_of_name (by decide)) rfl ok_LC (by simp [Value.category]) (Nat.le_of_ble_eq_true rfl) rfl (fun V hV C => ?_)
  subst hV
  refine gl_aload_0 (pc := 0) C dX2_keep_0 ?_
  refine gl_getR (pc := 1) C dX2_keep_1 fX2_keep_11 rfl rfl ?_
  refine gl_aload_0 (pc := 4) C dX2_keep_4 ?_
  refine gl_getI (pc := 5) C dX2_keep_5 fX2_keep_18 rfl rfl ?_
  refine gl_top hq ?_
  refine gl_aald (pc := 8) _ C dX2_keep_8 rfl rfl (by omega) ?_
  refine gl_astore_2 (pc := 9) C dX2_keep_9 ?_
  refine gl_aload_2 (pc := 10) C dX2_keep_10 ?_
  refine gl_ifnonnull (pc := 11) 15 C dX2_keep_11 (by decide) ?_
  refine gl_aload_2 (pc := 15) C dX2_keep_15 ?_
  refine gl_aload_1 (pc := 16) C dX2_keep_16 ?_
  refine gl_callVv (pc := 17) (gl_up2 (F := V.1) 2 0 (by omega) (by omega) (by omega) (ctX3_copyFrom (gl_sh V.1 (gl_e2 2 0)) _)) C dX2_keep_17 gX2_keep_X3_copyFrom rfl hdX3_copyFrom ⟨rfl, rfl, Nat.le_of_ble_eq_true rfl, Nat.le_of_ble_eq_true rfl⟩ rfl (Nat.le_of_ble_eq_true rfl) rfl rfl rfl ?_
  refine gl_aload_0 (pc := 20) C dX2_keep_20 ?_
  refine gl_aload_0 (pc := 21) C dX2_keep_21 ?_
  refine gl_getI (pc := 22) C dX2_keep_22 fX2_keep_18 rfl rfl ?_
  refine gl_top ((sp_blk_out (by omega)).trans hq) ?_
  refine gl_iconst (pc := 25) (nI 1) C dX2_keep_25 (by decide) ?_
  first | with_reducible refine gl_iaddN (pc := 26) C dX2_keep_26 ?_ | refine gl_iadd (pc := 26) C dX2_keep_26 ?_
  refine gl_iconst (pc := 27) (nI 5) C dX2_keep_27 (by decide) ?_
  refine gl_callSi (pc := 28) (ctJ9_floorMod V.1 LC ok_LC _ (a := 0 + 1) (b := 5) (by omega) (by omega) (by omega)) C dX2_keep_28 gX2_keep_J9_floorMod_7cf53 rfl hdJ9_floorMod_7cf53 ⟨rfl, rfl, Nat.le_of_ble_eq_true rfl, Nat.le_of_ble_eq_true rfl⟩ rfl (Nat.le_of_ble_eq_true rfl) rfl ?_
  refine gl_put (pc := 31) C dX2_keep_31 pX2_keep_18 rfl rfl ?_
  refine gl_aload_0 (pc := 34) C dX2_keep_34 ?_
  refine gl_aload_0 (pc := 35) C dX2_keep_35 ?_
  refine gl_getI (pc := 36) C dX2_keep_36 fX2_keep_32 rfl rfl ?_
  refine gl_top ((gl_upd_ne (by omega)).trans ((sp_blk_out (by omega)).trans hp)) ?_
  refine gl_iconst (pc := 39) (nI 1) C dX2_keep_39 (by decide) ?_
  first | with_reducible refine gl_iaddN (pc := 40) C dX2_keep_40 ?_ | refine gl_iadd (pc := 40) C dX2_keep_40 ?_
  refine gl_iconst (pc := 41) (nI 5) C dX2_keep_41 (by decide) ?_
  refine gl_min (pc := 42) C dX2_keep_42 (by decide +kernel) (by decide +kernel) (by decide +kernel) (by decide +kernel) ⟨Nat.le_of_ble_eq_true rfl, Nat.le_of_ble_eq_true rfl⟩ ?_
  refine gl_top (y := nI (if p = 5 then 5 else p + 1)) (by
      by_cases e : p = 5
      · rw [if_pos e, e]; decide +kernel
      · rw [if_neg e, if_neg (nI_nlt (by omega) (by omega))]) ?_
  refine gl_put (pc := 45) C dX2_keep_45 pX2_keep_32 rfl rfl ?_
  exact gl_vret (pc := 48) C dX2_keep_48 (rfl)
set_option maxRecDepth 100000 in
set_option maxHeartbeats 4000000 in
theorem ctX2_keep_1 (F : gl_F) (M : Nat → Int32) {p : Nat} (hp5 : p ≤ 5) (hp : M 2646 = nI p) (hq : M 2647 = nI 1) : gl_Ct F LC yX2_keep wsX2_keep rmX2_keep [.ref (gl_r F 127), .ref (gl_r F 0)] M (none) (sp_keepC M p 1) := by
  refine gl_met (cc := cX2_keep) (maxL := 3) (ret := none) [some (.ref (gl_r F 127)), some (.ref (gl_r F 0)), none] (plainFor_of_name (by decide)) rfl ok_LC (by simp [Value.category]) (Nat.le_of_ble_eq_true rfl) rfl (fun V hV C => ?_)
  subst hV
  refine gl_aload_0 (pc := 0) C dX2_keep_0 ?_
  refine gl_getR (pc := 1) C dX2_keep_1 fX2_keep_11 rfl rfl ?_
  refine gl_aload_0 (pc := 4) C dX2_keep_4 ?_
  refine gl_getI (pc := 5) C dX2_keep_5 fX2_keep_18 rfl rfl ?_
  refine gl_top hq ?_
  refine gl_aald (pc := 8) _ C dX2_keep_8 rfl rfl (by omega) ?_
  refine gl_astore_2 (pc := 9) C dX2_keep_9 ?_
  refine gl_aload_2 (pc := 10) C dX2_keep_10 ?_
  refine gl_ifnonnull (pc := 11) 15 C dX2_keep_11 (by decide) ?_
  refine gl_aload_2 (pc := 15) C dX2_keep_15 ?_
  refine gl_aload_1 (pc := 16) C dX2_keep_16 ?_
  refine gl_callVv (pc := 17) (gl_up2 (F := V.1) 3 0 (by omega) (by omega) (by omega) (ctX3_copyFrom (gl_sh V.1 (gl_e2 3 0)) _)) C dX2_keep_17 gX2_keep_X3_copyFrom rfl hdX3_copyFrom ⟨rfl, rfl, Nat.le_of_ble_eq_true rfl, Nat.le_of_ble_eq_true rfl⟩ rfl (Nat.le_of_ble_eq_true rfl) rfl rfl rfl ?_
  refine gl_aload_0 (pc := 20) C dX2_keep_20 ?_
  refine gl_aload_0 (pc := 21) C dX2_keep_21 ?_
  refine gl_getI (pc := 22) C dX2_keep_22 fX2_keep_18 rfl rfl ?_
  refine gl_top ((sp_blk_out (by omega)).trans hq) ?_
  refine gl_iconst (pc := 25) (nI 1) C dX2_keep_25 (by decide) ?_
  first | with_reducible refine gl_iaddN (pc := 26) C dX2_keep_26 ?_ | refine gl_iadd (pc := 26) C dX2_keep_26 ?_
  refine gl_iconst (pc := 27) (nI 5) C dX2_keep_27 (by decide) ?_
  refine gl_callSi (pc := 28) (ctJ9_floorMod V.1 LC ok_LC _ (a := 1 + 1) (b := 5) (by omega) (by omega) (by omega)) C dX2_keep_28 gX2_keep_J9_floorMod_7cf53 rfl hdJ9_floorMod_7cf53 ⟨rfl, rfl, Nat.le_of_ble_eq_true rfl, Nat.le_of_ble_eq_true rfl⟩ rfl (Nat.le_of_ble_eq_true rfl) rfl ?_
  refine gl_put (pc := 31) C dX2_keep_31 pX2_keep_18 rfl rfl ?_
  refine gl_aload_0 (pc := 34) C dX2_keep_34 ?_
  refine gl_aload_0 (pc := 35) C dX2_keep_35 ?_
  refine gl_getI (pc := 36) C dX2_keep_36 fX2_keep_32 rfl rfl ?_
  refine gl_top ((gl_upd_ne (by omega)).trans ((sp_blk_out (by omega)).trans hp)) ?_
  refine gl_iconst (pc := 39) (nI 1) C dX2_keep_39 (by decide) ?_
  first | with_reducible refine gl_iaddN (pc := 40) C dX2_keep_40 ?_ | refine gl_iadd (pc := 40) C dX2_keep_40 ?_
  refine gl_iconst (pc := 41) (nI 5) C dX2_keep_41 (by decide) ?_
  refine gl_min (pc := 42) C dX2_keep_42 (by decide +kernel) (by decide +kernel) (by decide +kernel) (by decide +kernel) ⟨Nat.le_of_ble_eq_true rfl, Nat.le_of_ble_eq_true rfl⟩ ?_
  refine gl_top (y := nI (if p = 5 then 5 else p + 1)) (by
      by_cases e : p = 5
      · rw [if_pos e, e]; decide +kernel
      · rw [if_neg e, if_neg (nI_nlt (by omega) (by omega))]) ?_
  refine gl_put (pc := 45) C dX2_keep_45 pX2_keep_32 rfl rfl ?_
  exact gl_vret (pc := 48) C dX2_keep_48 (rfl)
set_option maxRecDepth 100000 in
set_option maxHeartbeats 4000000 in
theorem ctX2_keep_2 (F : gl_F) (M : Nat → Int32) {p : Nat} (hp5 : p ≤ 5) (hp : M 2646 = nI p) (hq : M 2647 = nI 2) : gl_Ct F LC yX2_keep wsX2_keep rmX2_keep [.ref (gl_r F 127), .ref (gl_r F 0)] M (none) (sp_keepC M p 2) := by
  refine gl_met (cc := cX2_keep) (maxL := 3) (ret := none) [some (.ref (gl_r F 127)), some (.ref (gl_r F 0)), none] (plainFor_of_name (by decide)) rfl ok_LC (by simp [Value.category]) (Nat.le_of_ble_eq_true rfl) rfl (fun V hV C => ?_)
  subst hV
  refine gl_aload_0 (pc := 0) C dX2_keep_0 ?_
  refine gl_getR (pc := 1) C dX2_keep_1 fX2_keep_11 rfl rfl ?_
  refine gl_aload_0 (pc := 4) C dX2_keep_4 ?_
  refine gl_getI (pc := 5) C dX2_keep_5 fX2_keep_18 rfl rfl ?_
  refine gl_top hq ?_
  refine gl_aald (pc := 8) _ C dX2_keep_8 rfl rfl (by omega) ?_
  refine gl_astore_2 (pc := 9) C dX2_keep_9 ?_
  refine gl_aload_2 (pc := 10) C dX2_keep_10 ?_
  refine gl_ifnonnull (pc := 11) 15 C dX2_keep_11 (by decide) ?_
  refine gl_aload_2 (pc := 15) C dX2_keep_15 ?_
  refine gl_aload_1 (pc := 16) C dX2_keep_16 ?_
  refine gl_callVv (pc := 17) (gl_up2 (F := V.1) 4 0 (by omega) (by omega) (by omega) (ctX3_copyFrom (gl_sh V.1 (gl_e2 4 0)) _)) C dX2_keep_17 gX2_keep_X3_copyFrom rfl hdX3_copyFrom ⟨rfl, rfl, Nat.le_of_ble_eq_true rfl, Nat.le_of_ble_eq_true rfl⟩ rfl (Nat.le_of_ble_eq_true rfl) rfl rfl rfl ?_
  refine gl_aload_0 (pc := 20) C dX2_keep_20 ?_
  refine gl_aload_0 (pc := 21) C dX2_keep_21 ?_
  refine gl_getI (pc := 22) C dX2_keep_22 fX2_keep_18 rfl rfl ?_
  refine gl_top ((sp_blk_out (by omega)).trans hq) ?_
  refine gl_iconst (pc := 25) (nI 1) C dX2_keep_25 (by decide) ?_
  first | with_reducible refine gl_iaddN (pc := 26) C dX2_keep_26 ?_ | refine gl_iadd (pc := 26) C dX2_keep_26 ?_
  refine gl_iconst (pc := 27) (nI 5) C dX2_keep_27 (by decide) ?_
  refine gl_callSi (pc := 28) (ctJ9_floorMod V.1 LC ok_LC _ (a := 2 + 1) (b := 5) (by omega) (by omega) (by omega)) C dX2_keep_28 gX2_keep_J9_floorMod_7cf53 rfl hdJ9_floorMod_7cf53 ⟨rfl, rfl, Nat.le_of_ble_eq_true rfl, Nat.le_of_ble_eq_true rfl⟩ rfl (Nat.le_of_ble_eq_true rfl) rfl ?_
  refine gl_put (pc := 31) C dX2_keep_31 pX2_keep_18 rfl rfl ?_
  refine gl_aload_0 (pc := 34) C dX2_keep_34 ?_
  refine gl_aload_0 (pc := 35) C dX2_keep_35 ?_
  refine gl_getI (pc := 36) C dX2_keep_36 fX2_keep_32 rfl rfl ?_
  refine gl_top ((gl_upd_ne (by omega)).trans ((sp_blk_out (by omega)).trans hp)) ?_
  refine gl_iconst (pc := 39) (nI 1) C dX2_keep_39 (by decide) ?_
  first | with_reducible refine gl_iaddN (pc := 40) C dX2_keep_40 ?_ | refine gl_iadd (pc := 40) C dX2_keep_40 ?_
  refine gl_iconst (pc := 41) (nI 5) C dX2_keep_41 (by decide) ?_
  refine gl_min (pc := 42) C dX2_keep_42 (by decide +kernel) (by decide +kernel) (by decide +kernel) (by decide +kernel) ⟨Nat.le_of_ble_eq_true rfl, Nat.le_of_ble_eq_true rfl⟩ ?_
  refine gl_top (y := nI (if p = 5 then 5 else p + 1)) (by
      by_cases e : p = 5
      · rw [if_pos e, e]; decide +kernel
      · rw [if_neg e, if_neg (nI_nlt (by omega) (by omega))]) ?_
  refine gl_put (pc := 45) C dX2_keep_45 pX2_keep_32 rfl rfl ?_
  exact gl_vret (pc := 48) C dX2_keep_48 (rfl)
set_option maxRecDepth 100000 in
set_option maxHeartbeats 4000000 in
theorem ctX2_keep_3 (F : gl_F) (M : Nat → Int32) {p : Nat} (hp5 : p ≤ 5) (hp : M 2646 = nI p) (hq : M 2647 = nI 3) : gl_Ct F LC yX2_keep wsX2_keep rmX2_keep [.ref (gl_r F 127), .ref (gl_r F 0)] M (none) (sp_keepC M p 3) := by
  refine gl_met (cc := cX2_keep) (maxL := 3) (ret := none) [some (.ref (gl_r F 127)), some (.ref (gl_r F 0)), none] (plainFor_of_name (by decide)) rfl ok_LC (by simp [Value.category]) (Nat.le_of_ble_eq_true rfl) rfl (fun V hV C => ?_)
  subst hV
  refine gl_aload_0 (pc := 0) C dX2_keep_0 ?_
  refine gl_getR (pc := 1) C dX2_keep_1 fX2_keep_11 rfl rfl ?_
  refine gl_aload_0 (pc := 4) C dX2_keep_4 ?_
  refine gl_getI (pc := 5) C dX2_keep_5 fX2_keep_18 rfl rfl ?_
  refine gl_top hq ?_
  refine gl_aald (pc := 8) _ C dX2_keep_8 rfl rfl (by omega) ?_
  refine gl_astore_2 (pc := 9) C dX2_keep_9 ?_
  refine gl_aload_2 (pc := 10) C dX2_keep_10 ?_
  refine gl_ifnonnull (pc := 11) 15 C dX2_keep_11 (by decide) ?_
  refine gl_aload_2 (pc := 15) C dX2_keep_15 ?_
  refine gl_aload_1 (pc := 16) C dX2_keep_16 ?_
  refine gl_callVv (pc := 17) (gl_up2 (F := V.1) 5 0 (by omega) (by omega) (by omega) (ctX3_copyFrom (gl_sh V.1 (gl_e2 5 0)) _)) C dX2_keep_17 gX2_keep_X3_copyFrom rfl hdX3_copyFrom ⟨rfl, rfl, Nat.le_of_ble_eq_true rfl, Nat.le_of_ble_eq_true rfl⟩ rfl (Nat.le_of_ble_eq_true rfl) rfl rfl rfl ?_
  refine gl_aload_0 (pc := 20) C dX2_keep_20 ?_
  refine gl_aload_0 (pc := 21) C dX2_keep_21 ?_
  refine gl_getI (pc := 22) C dX2_keep_22 fX2_keep_18 rfl rfl ?_
  refine gl_top ((sp_blk_out (by omega)).trans hq) ?_
  refine gl_iconst (pc := 25) (nI 1) C dX2_keep_25 (by decide) ?_
  first | with_reducible refine gl_iaddN (pc := 26) C dX2_keep_26 ?_ | refine gl_iadd (pc := 26) C dX2_keep_26 ?_
  refine gl_iconst (pc := 27) (nI 5) C dX2_keep_27 (by decide) ?_
  refine gl_callSi (pc := 28) (ctJ9_floorMod V.1 LC ok_LC _ (a := 3 + 1) (b := 5) (by omega) (by omega) (by omega)) C dX2_keep_28 gX2_keep_J9_floorMod_7cf53 rfl hdJ9_floorMod_7cf53 ⟨rfl, rfl, Nat.le_of_ble_eq_true rfl, Nat.le_of_ble_eq_true rfl⟩ rfl (Nat.le_of_ble_eq_true rfl) rfl ?_
  refine gl_put (pc := 31) C dX2_keep_31 pX2_keep_18 rfl rfl ?_
  refine gl_aload_0 (pc := 34) C dX2_keep_34 ?_
  refine gl_aload_0 (pc := 35) C dX2_keep_35 ?_
  refine gl_getI (pc := 36) C dX2_keep_36 fX2_keep_32 rfl rfl ?_
  refine gl_top ((gl_upd_ne (by omega)).trans ((sp_blk_out (by omega)).trans hp)) ?_
  refine gl_iconst (pc := 39) (nI 1) C dX2_keep_39 (by decide) ?_
  first | with_reducible refine gl_iaddN (pc := 40) C dX2_keep_40 ?_ | refine gl_iadd (pc := 40) C dX2_keep_40 ?_
  refine gl_iconst (pc := 41) (nI 5) C dX2_keep_41 (by decide) ?_
  refine gl_min (pc := 42) C dX2_keep_42 (by decide +kernel) (by decide +kernel) (by decide +kernel) (by decide +kernel) ⟨Nat.le_of_ble_eq_true rfl, Nat.le_of_ble_eq_true rfl⟩ ?_
  refine gl_top (y := nI (if p = 5 then 5 else p + 1)) (by
      by_cases e : p = 5
      · rw [if_pos e, e]; decide +kernel
      · rw [if_neg e, if_neg (nI_nlt (by omega) (by omega))]) ?_
  refine gl_put (pc := 45) C dX2_keep_45 pX2_keep_32 rfl rfl ?_
  exact gl_vret (pc := 48) C dX2_keep_48 (rfl)
set_option maxRecDepth 100000 in
set_option maxHeartbeats 4000000 in
theorem ctX2_keep_4 (F : gl_F) (M : Nat → Int32) {p : Nat} (hp5 : p ≤ 5) (hp : M 2646 = nI p) (hq : M 2647 = nI 4) : gl_Ct F LC yX2_keep wsX2_keep rmX2_keep [.ref (gl_r F 127), .ref (gl_r F 0)] M (none) (sp_keepC M p 4) := by
  refine gl_met (cc := cX2_keep) (maxL := 3) (ret := none) [some (.ref (gl_r F 127)), some (.ref (gl_r F 0)), none] (plainFor_of_name (by decide)) rfl ok_LC (by simp [Value.category]) (Nat.le_of_ble_eq_true rfl) rfl (fun V hV C => ?_)
  subst hV
  refine gl_aload_0 (pc := 0) C dX2_keep_0 ?_
  refine gl_getR (pc := 1) C dX2_keep_1 fX2_keep_11 rfl rfl ?_
  refine gl_aload_0 (pc := 4) C dX2_keep_4 ?_
  refine gl_getI (pc := 5) C dX2_keep_5 fX2_keep_18 rfl rfl ?_
  refine gl_top hq ?_
  refine gl_aald (pc := 8) _ C dX2_keep_8 rfl rfl (by omega) ?_
  refine gl_astore_2 (pc := 9) C dX2_keep_9 ?_
  refine gl_aload_2 (pc := 10) C dX2_keep_10 ?_
  refine gl_ifnonnull (pc := 11) 15 C dX2_keep_11 (by decide) ?_
  refine gl_aload_2 (pc := 15) C dX2_keep_15 ?_
  refine gl_aload_1 (pc := 16) C dX2_keep_16 ?_
  refine gl_callVv (pc := 17) (gl_up2 (F := V.1) 6 0 (by omega) (by omega) (by omega) (ctX3_copyFrom (gl_sh V.1 (gl_e2 6 0)) _)) C dX2_keep_17 gX2_keep_X3_copyFrom rfl hdX3_copyFrom ⟨rfl, rfl, Nat.le_of_ble_eq_true rfl, Nat.le_of_ble_eq_true rfl⟩ rfl (Nat.le_of_ble_eq_true rfl) rfl rfl rfl ?_
  refine gl_aload_0 (pc := 20) C dX2_keep_20 ?_
  refine gl_aload_0 (pc := 21) C dX2_keep_21 ?_
  refine gl_getI (pc := 22) C dX2_keep_22 fX2_keep_18 rfl rfl ?_
  refine gl_top ((sp_blk_out (by omega)).trans hq) ?_
  refine gl_iconst (pc := 25) (nI 1) C dX2_keep_25 (by decide) ?_
  first | with_reducible refine gl_iaddN (pc := 26) C dX2_keep_26 ?_ | refine gl_iadd (pc := 26) C dX2_keep_26 ?_
  refine gl_iconst (pc := 27) (nI 5) C dX2_keep_27 (by decide) ?_
  refine gl_callSi (pc := 28) (ctJ9_floorMod V.1 LC ok_LC _ (a := 4 + 1) (b := 5) (by omega) (by omega) (by omega)) C dX2_keep_28 gX2_keep_J9_floorMod_7cf53 rfl hdJ9_floorMod_7cf53 ⟨rfl, rfl, Nat.le_of_ble_eq_true rfl, Nat.le_of_ble_eq_true rfl⟩ rfl (Nat.le_of_ble_eq_true rfl) rfl ?_
  refine gl_put (pc := 31) C dX2_keep_31 pX2_keep_18 rfl rfl ?_
  refine gl_aload_0 (pc := 34) C dX2_keep_34 ?_
  refine gl_aload_0 (pc := 35) C dX2_keep_35 ?_
  refine gl_getI (pc := 36) C dX2_keep_36 fX2_keep_32 rfl rfl ?_
  refine gl_top ((gl_upd_ne (by omega)).trans ((sp_blk_out (by omega)).trans hp)) ?_
  refine gl_iconst (pc := 39) (nI 1) C dX2_keep_39 (by decide) ?_
  first | with_reducible refine gl_iaddN (pc := 40) C dX2_keep_40 ?_ | refine gl_iadd (pc := 40) C dX2_keep_40 ?_
  refine gl_iconst (pc := 41) (nI 5) C dX2_keep_41 (by decide) ?_
  refine gl_min (pc := 42) C dX2_keep_42 (by decide +kernel) (by decide +kernel) (by decide +kernel) (by decide +kernel) ⟨Nat.le_of_ble_eq_true rfl, Nat.le_of_ble_eq_true rfl⟩ ?_
  refine gl_top (y := nI (if p = 5 then 5 else p + 1)) (by
      by_cases e : p = 5
      · rw [if_pos e, e]; decide +kernel
      · rw [if_neg e, if_neg (nI_nlt (by omega) (by omega))]) ?_
  refine gl_put (pc := 45) C dX2_keep_45 pX2_keep_32 rfl rfl ?_
  exact gl_vret (pc := 48) C dX2_keep_48 (rfl)
theorem ctX2_keep (F : gl_F) (M : Nat → Int32) {p q : Nat} (hp5 : p ≤ 5) (hp : M 2646 = nI p) (hq5 : q < 5) (hq : M 2647 = nI q) : gl_Ct F LC yX2_keep wsX2_keep rmX2_keep [.ref (gl_r F 127), .ref (gl_r F 0)] M none (sp_keepC M p q) := by
  rcases (show q = 0 ∨ q = 1 ∨ q = 2 ∨ q = 3 ∨ q = 4 by omega) with rfl | rfl | rfl | rfl | rfl
  · exact ctX2_keep_0 F M hp5 hp hq
  · exact ctX2_keep_1 F M hp5 hp hq
  · exact ctX2_keep_2 F M hp5 hp hq
  · exact ctX2_keep_3 F M hp5 hp hq
  · exact ctX2_keep_4 F M hp5 hp hq
