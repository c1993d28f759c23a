theorem fX0_has_36 : gl_fl wsX0_has RX0 36 0 0 := ⟨RX0, TX0, 9, RX0, rfl, by decide, by decide +kernel, by decide +kernel, rfl⟩
set_option maxRecDepth 100000 in
set_option maxHeartbeats 4000000 in
theorem ctX0_has (F : gl_F) (M : Nat → Int32) (x : Int32) : gl_Ct F LH yX0_has wsX0_has rmX0_has [.ref (gl_r F 9), .int x] M (some (.int (if sp_has x (M 2) then nI 1 else nI 0))) (M) := by
  refine gl_met (cc := cX0_has) (maxL := 2) (ret := some .boolean) [some (.ref (gl_r F 9)), some (.int x)] (plainFor_of_name (by decide)) rfl ok_LH (by simp [Value.category]) (Nat.le_of_ble_eq_true rfl) rfl (fun V hV C => ?_)
  subst hV
  refine gl_iload_1 (pc := 0) C dX0_has_0 ?_
  refine gl_iflt (pc := 1) 16 C dX0_has_1 (by decide) (fun h1 => ?_) (fun h1 => ?_)
  · skip
    refine gl_iconst (pc := 16) (nI 0) C dX0_has_16 (by decide) ?_
    exact gl_zret (pc := 17) C dX0_has_17 (by rfl) (by simp [*]) (rfl)
  · skip
    refine gl_iload_1 (pc := 4) C dX0_has_4 ?_
    refine gl_aload_0 (pc := 5) C dX0_has_5 ?_
    refine gl_getI (pc := 6) C dX0_has_6 fX0_has_36 rfl rfl ?_
    refine gl_icmp_ge (pc := 9) 16 C dX0_has_9 (by decide) (fun h9 => ?_) (fun h9 => ?_)
    · skip
      refine gl_iconst (pc := 16) (nI 0) C dX0_has_16 (by decide) ?_
      exact gl_zret (pc := 17) C dX0_has_17 (by rfl) (by simp [*]) (rfl)
    · skip
      refine gl_iconst (pc := 12) (nI 1) C dX0_has_12 (by decide) ?_
      refine gl_goto (pc := 13) 17 C dX0_has_13 (by decide) ?_
      exact gl_zret (pc := 17) C dX0_has_17 (by rfl) (by simp [*]) (rfl)
