/-! ===== an action of the law, whatever the numbers: both sides go on together ===== -/
abbrev lw_args (F : gl_F) : List Value := [.ref (gl_r F 126), .ref (gl_r F 129), .ref (gl_r F 130), .ref (gl_r F 131), .ref (gl_r F 132), .ref (gl_r F 133)]
section STEP
variable {n m t p q A : Nat} {G S : Nat → Int32}
theorem cars_step (F : gl_F) (I : qI n m t p q A G S) (hA1 : A + 1 ≤ 70) {v wy : Nat} (hv : v < 10000000) (hwy : wy < 6) : ∃ n' m' t' p' q' G' S', gl_Ct F LL yL_cars wsL_cars rmL_cars [.ref (gl_r F 126), .ref (gl_r F 129), .ref (gl_r F 130), .ref (gl_r F 131), .ref (gl_r F 132), .ref (gl_r F 133), .int (nI v), .int (nI wy)] (ll G (en S n)) (some (.int (nI 1))) (ll G' (en S' n')) ∧ qI n' m' t' p' q' (A + 1) G' S' := by
  obtain ⟨w, hq, ht1, hA, hS, hp5, hq5, hp, hqq, z⟩ := id I
  have hm5 := w.2.1
  by_cases h0 : wy = 0
  · subst h0
    by_cases hb : lgL v < lgM v
    · by_cases h5 : m = 5
      · exact ⟨_, _, _, _, _, _, _, ctL_cars_full F I hv (wy := 0) (by omega) hb h5, qI_no I hA1⟩
      · have h1 := lgL_lt v
        have h2 := lgM_lt v
        exact ⟨_, _, _, _, _, _, _, ctL_cars_add F I hv (wy := 0) (by omega) hb (by omega), qI_act I hA1 (sp_addC_W w (by omega) (fl_n (by omega)) (fl_n h2) (okC_n hb).2.2.2) (q_add (by omega) (q_up (by omega) (by omega) hq)) (by omega) (z_addC w z (by omega) hb h2)⟩
    · exact ⟨_, _, _, _, _, _, _, ctL_cars_bad F I hv (wy := 0) (by omega) hb, qI_no I hA1⟩
  by_cases h1 : wy = 1
  · subst h1
    have hl := lgH_lt v t
    exact ⟨_, _, _, _, _, _, _, ctL_cars_awake F I hv (wy := 1) (by omega), qI_act I hA1 (sp_W_aw w hl _) (q_lo (by omega) (q_up (by omega) (by omega) hq)) (by omega) (z_st z (Or.inl (by omega)))⟩
  by_cases hm0 : m = 0
  · exact ⟨_, _, _, _, _, _, _, ctL_cars_none F I hv (wy := wy) (by omega) (by omega) hm0, qI_no I hA1⟩
  have hcm : v % m < m := Nat.mod_lt _ (by omega)
  have hi : iC (v % m) 4 < 58 := by unfold iC; omega
  by_cases h4 : wy < 4
  · by_cases hs : S (iC (v % m) 4) = nI 2 ∨ S (iC (v % m) 4) = nI (v / 5 % 2)
    · exact ⟨_, _, _, _, _, _, _, ctL_cars_hold_no F I hv (wy := wy) (by omega) (by omega) h4 (by omega) hs, qI_no I hA1⟩
    · exact ⟨_, _, _, _, _, _, _, ctL_cars_hold F I hv (wy := wy) (by omega) (by omega) h4 (by omega) hs, qI_act I hA1 (sp_W_st w hcm _) (q_lo hi (q_up (by omega) (by omega) hq)) (by omega) (z_st z (Or.inr ⟨_, by omega, rfl⟩))⟩
  by_cases h3 : v / 5 % 3 = 0
  · by_cases hs : S (iC (v % m) 4) = nI 2
    · exact ⟨_, _, _, _, _, _, _, ctL_cars_fail_no F I hv (wy := wy) (by omega) (by omega) (by omega) h3 hs, qI_no I hA1⟩
    · refine ⟨_, _, _, _, _, _, _, ctL_cars_fail F I hv (wy := wy) (by omega) (by omega) (by omega) h3 hs, qI_act I hA1 (sp_fail_W w hcm) (q_fail hq (by omega) (by omega) hcm (by omega) w) (by omega) ?_⟩
      unfold sp_fail
      exact z_lose hm5 (z_st z (Or.inr ⟨_, by omega, rfl⟩)) n (Nat.le_refl _)
  · by_cases hs : S (iC (v % m) 4) = nI 2
    · exact ⟨_, _, _, _, _, _, _, ctL_cars_rep F I hv (wy := wy) (by omega) (by omega) (by omega) h3 hs, qI_act I hA1 (sp_W_st w hcm _) (q_lo hi (q_up (by omega) (by omega) hq)) (by omega) (z_st z (Or.inr ⟨_, by omega, rfl⟩))⟩
    · exact ⟨_, _, _, _, _, _, _, ctL_cars_rep_no F I hv (wy := wy) (by omega) (by omega) (by omega) h3 hs, qI_no I hA1⟩
theorem acts_step (F : gl_F) (I : qI n m t p q A G S) (hA1 : A + 1 ≤ 70) (zz : Int32) : ∃ n' m' t' p' q' G' S', gl_Ct F LL yL_acts wsL_acts rmL_acts [.ref (gl_r F 126), .ref (gl_r F 129), .ref (gl_r F 130), .ref (gl_r F 131), .ref (gl_r F 132), .ref (gl_r F 133), .int zz] (ll G (en S n)) (some (.int (nI 1))) (ll G' (en S' n')) ∧ qI n' m' t' p' q' (A + 1) G' S' := by
  obtain ⟨w, hq, ht1, hA, hS, hp5, hq5, hp, hqq, z⟩ := id I
  have hm5 := w.2.1
  have hn40 := w.1
  obtain ⟨v, ev⟩ : ∃ v, lg_low (zz >>> (nI 5 &&& 31)) 10000000 = v := ⟨_, rfl⟩
  obtain ⟨wy, ew⟩ : ∃ wy, lg_low zz 24 = wy := ⟨_, rfl⟩
  have hv : v < 10000000 := by rw [← ev]; exact lowA _ (by omega)
  by_cases h6 : wy < 6
  · obtain ⟨n', m', t', p', q', G', S', ct, I'⟩ := cars_step F I hA1 hv h6
    exact ⟨n', m', t', p', q', G', S', ctL_acts_cars F ev ew h6 ct, I'⟩
  by_cases h15 : wy < 15
  · by_cases hfg : v % 16 = v / 16 % 16
    · exact ⟨_, _, _, _, _, _, _, ctL_acts_same F I ev ew (by omega) h15 hfg, qI_no I hA1⟩
    by_cases h40 : n = 40
    · exact ⟨_, _, _, _, _, _, _, ctL_acts_full F I ev ew (by omega) h15 hfg h40, qI_no I hA1⟩
    have hf := fl_n (f := v % 16) (by omega)
    have hg := fl_n (f := v / 16 % 16) (by omega)
    have wK := sp_addK_W w (by omega) hf hg (tk := nI t)
    have qK := q_addK (q_up (A' := A + 1) (by omega) (by omega) hq) (by omega) (f := v % 16) (g := v / 16 % 16) (t := t) (by omega) (by omega) (by omega)
    obtain ⟨a0, a1, a2, -⟩ := addK1_at (M := S) (n := n) (f := nI (v % 16)) (g := nI (v / 16 % 16)) (tk := nI t)
    have b0 : sp_addK S n (nI (v % 16)) (nI (v / 16 % 16)) (nI t) (iK n 0) = nI (v % 16) := (gl_upd_ne (by unfold iK; omega)).trans a0
    have b1 : sp_addK S n (nI (v % 16)) (nI (v / 16 % 16)) (nI t) (iK n 1) = nI (v / 16 % 16) := (gl_upd_ne (by unfold iK; omega)).trans a1
    have e0 : sp_addK S n (nI (v % 16)) (nI (v / 16 % 16)) (nI t) (iK n 2) = 0 := ((gl_upd_ne (by unfold iK; omega)).trans a2).trans nI_0'
    refine ⟨_, _, _, _, _, _, _, ctL_acts_call F I ev ew (by omega) h15 hfg (by omega) hA1, qI_act I hA1 (sp_give_W wK (Nat.lt_succ_self n) (by rw [e0]; decide) _) ?_ (by omega) ?_⟩
    · exact q_give qK (Nat.lt_succ_self n) e0 (q_best hm5)
    · have zb := z_best (S := sp_addK S n (nI (v % 16)) (nI (v / 16 % 16)) (nI t)) wK hf (g := nI (v / 16 % 16))
      rw [sp_addK_best m hm5] at zb
      exact z_give wK (z_addK hm5 z) n (by rw [b0, b1]; exact zb)
  · refine ⟨_, _, _, _, _, _, _, ctL_acts_pass F I ev ew (by omega), qI_act I hA1 (sp_run_W w _) (q_up (A := A) (by omega) (by omega) (q_run hq hm5 _ ?_)) ?_ (z_run w z _)⟩
    · have := lgD_lt v
      have := Nat.mod_lt v this.1
      omega
    · have := lgD_lt v
      have := Nat.mod_lt v this.1
      omega
end STEP
