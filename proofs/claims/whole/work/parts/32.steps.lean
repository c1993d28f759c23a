/-! ===== each method of the law: the two contracts have one answer, and what binds the two stays ===== -/
theorem sp_addC_lo {M : Nat → Int32} {m : Nat} {lo hi pl : Int32} {i : Nat} (h1 : i ≠ 1) (hi' : ∀ w, w < 6 → i ≠ iC m w) : sp_addC M m lo hi pl i = M i := by
  unfold sp_addC
  rw [gl_upd_ne h1, oC (by omega) hi', oC (by omega) hi', oC (by omega) hi', oC (by omega) hi', oC (by omega) hi', oC (by omega) hi']
theorem sp_addC_W {n m t : Nat} {M : Nat → Int32} (w : sp_W n m t M) (hm : m < 5) {lo hi pl : Int32} (hl : sp_fl lo) (hh : sp_fl hi) (hp : sp_inr pl (nI 1) (nI 8)) : sp_W n (m + 1) t (sp_addC M m lo hi pl) := by
  obtain ⟨h1, h2, h3, h4, h5, h6, h7⟩ := w
  have n1 : ∀ v, iC m v ≠ 1 := fun v => by unfold iC; omega
  refine ⟨h1, by omega, ?_, by unfold sp_addC; rw [gl_upd_eq], ?_, fun c hc => ?_, fun k hk => ?_⟩
  · rw [sp_addC_lo (by omega) (fun w _ => by unfold iC; omega)]; exact h3
  · rw [sp_addC_lo (by omega) (fun w _ => by unfold iC; omega)]; exact h5
  · by_cases hcm : c < m
    · have := h6 c hcm
      have e : ∀ v, v < 6 → sp_addC M m lo hi pl (iC c v) = M (iC c v) := fun v hv => sp_addC_lo (by unfold iC; omega) (fun w hw => iC_ne hv hw (by omega))
      unfold sp_car at this ⊢
      rw [e 0 (by omega), e 1 (by omega), e 2 (by omega), e 3 (by omega)]
      exact this
    · have : c = m := by omega
      subst this
      have a0 : sp_addC M c lo hi pl (iC c 0) = lo := by
        unfold sp_addC
        rw [gl_upd_ne (n1 0), rC (by omega) (by omega) (by omega), rC (by omega) (by omega) (by omega), rC (by omega) (by omega) (by omega), rC (by omega) (by omega) (by omega), rC (by omega) (by omega) (by omega), gl_upd_eq]
      have a1 : sp_addC M c lo hi pl (iC c 1) = hi := by
        unfold sp_addC
        rw [gl_upd_ne (n1 1), rC (by omega) (by omega) (by omega), rC (by omega) (by omega) (by omega), rC (by omega) (by omega) (by omega), rC (by omega) (by omega) (by omega), gl_upd_eq]
      have a2 : sp_addC M c lo hi pl (iC c 2) = pl := by
        unfold sp_addC
        rw [gl_upd_ne (n1 2), rC (by omega) (by omega) (by omega), rC (by omega) (by omega) (by omega), rC (by omega) (by omega) (by omega), gl_upd_eq]
      have a3 : sp_addC M c lo hi pl (iC c 3) = lo := by
        unfold sp_addC
        rw [gl_upd_ne (n1 3), rC (by omega) (by omega) (by omega), rC (by omega) (by omega) (by omega), gl_upd_eq]
      obtain ⟨p, p1, p2, rfl⟩ := sp_inr_n (by omega) (by omega) hp
      unfold sp_car
      rw [a0, a1, a2, a3]
      exact ⟨hl, hh, hl, p, p1, p2, rfl⟩
  · have := h7 k hk
    have e : ∀ v, v < 8 → sp_addC M m lo hi pl (iK k v) = M (iK k v) := fun v hv => sp_addC_lo (by unfold iK; omega) (fun w hw => (iCK hm hw).symm)
    unfold sp_cal at this ⊢
    rw [e 0 (by omega), e 1 (by omega), e 2 (by omega), e 6 (by omega)]
    exact this
theorem sp_W_aw {n m t : Nat} {M : Nat → Int32} (w : sp_W n m t M) {c : Nat} (hc : c < 24) (x : Int32) : sp_W n m t (upd M (4 + c) x) := by
  obtain ⟨h1, h2, h3, h4, h5, h6, h7⟩ := w
  have e : ∀ i, i < 4 ∨ 28 ≤ i → upd M (4 + c) x i = M i := fun i hi => gl_upd_ne (by omega)
  refine ⟨h1, h2, by rw [e _ (by omega)]; exact h3, by rw [e _ (by omega)]; exact h4, by rw [e _ (by omega)]; exact h5, fun c' hc' => ?_, fun k hk => ?_⟩
  · have := h6 c' hc'
    unfold sp_car at this ⊢
    rw [e _ (by unfold iC; omega), e _ (by unfold iC; omega), e _ (by unfold iC; omega), e _ (by unfold iC; omega)]
    exact this
  · have := h7 k hk
    unfold sp_cal at this ⊢
    rw [e _ (by unfold iK; omega), e _ (by unfold iK; omega), e _ (by unfold iK; omega), e _ (by unfold iK; omega)]
    exact this
theorem st_addCar (Fc Fm : gl_F) {G M : Nat → Int32} (h : lw_Inv G M) (a b c : Int32) : ∃ v G' M', gl_Ct Fc LC yX4_addCar wsX4_addCar rmX4_addCar [.ref (gl_r Fc 126), .int a, .int b, .int c] G (some (.int v)) G' ∧ gl_Ct Fm LM yX5_addCar wsX5_addCar rmX5_addCar [.ref (gl_r Fm 0), .int a, .int b, .int c] M (some (.int v)) M' ∧ lw_Inv G' M' := by
  obtain ⟨n, m, t, p, q, hI⟩ := h
  obtain ⟨w, ht, ha, hp5, hq5, h1, h2, h3, hj⟩ := id hI
  have lo := sp_acts_lo (M := M) (p := p)
  have wA := sp_W_lo lo w
  refine ⟨_, _, _, ctX4_addCar Fc wA (by omega) (fun i hi => (ha i hi).trans (lo i hi).symm) hp5 h1 hq5 h2 a b c, ctX5_addCar Fm w (by omega) hp5 h3 a b c, ?_⟩
  by_cases hk : sp_okC a b c ∧ ¬ m = 5
  · rw [if_pos hk, if_pos hk]
    have hm5 := w.2.1
    exact ⟨_, _, _, _, _, lw_act hI (sp_addC_W wA (by omega) (sp_isf_fl hk.1.1) (sp_isf_fl hk.1.2.1) hk.1.2.2.2) ht (fun i hi => sp_addC_lo (by omega) (fun w hw => hC (by omega) hw hi))⟩
  · rw [if_neg hk, if_neg hk]
    exact ⟨n, m, t, p, q, hI⟩
theorem st_setAwake (Fc Fm : gl_F) {G M : Nat → Int32} (h : lw_Inv G M) (a b : Int32) : ∃ v G' M', gl_Ct Fc LC yX4_setAwake wsX4_setAwake rmX4_setAwake [.ref (gl_r Fc 126), .int a, .int b] G (some (.int v)) G' ∧ gl_Ct Fm LM yX5_setAwake wsX5_setAwake rmX5_setAwake [.ref (gl_r Fm 0), .int a, .int b] M (some (.int v)) M' ∧ lw_Inv G' M' := by
  obtain ⟨n, m, t, p, q, hI⟩ := h
  obtain ⟨w, ht, ha, hp5, hq5, h1, h2, h3, hj⟩ := id hI
  have lo := sp_acts_lo (M := M) (p := p)
  have wA := sp_W_lo lo w
  refine ⟨_, _, _, ctX4_setAwake Fc wA (by omega) (fun i hi => (ha i hi).trans (lo i hi).symm) hp5 h1 hq5 h2 a b, ctX5_setAwake Fm w (by omega) hp5 h3 a b, ?_⟩
  by_cases hk : sp_okA a b
  · rw [if_pos hk, if_pos hk]
    obtain ⟨c, -, hc, rfl⟩ := sp_inr_n (by omega) (by omega) hk.1
    have hcN : cN (nI c) = c := nI_clamp (by omega)
    rw [hcN]
    exact ⟨_, _, _, _, _, lw_act hI (sp_W_aw wA (by omega) b) ht (fun i hi => gl_upd_ne (by omega))⟩
  · rw [if_neg hk, if_neg hk]
    exact ⟨n, m, t, p, q, hI⟩
theorem st_hold (Fc Fm : gl_F) {G M : Nat → Int32} (h : lw_Inv G M) (a b : Int32) : ∃ v G' M', gl_Ct Fc LC yX4_hold wsX4_hold rmX4_hold [.ref (gl_r Fc 126), .int a, .int b] G (some (.int v)) G' ∧ gl_Ct Fm LM yX5_hold wsX5_hold rmX5_hold [.ref (gl_r Fm 0), .int a, .int b] M (some (.int v)) M' ∧ lw_Inv G' M' := by
  obtain ⟨n, m, t, p, q, hI⟩ := h
  obtain ⟨w, ht, ha, hp5, hq5, h1, h2, h3, hj⟩ := id hI
  have lo := sp_acts_lo (M := M) (p := p)
  have wA := sp_W_lo lo w
  refine ⟨_, _, _, ctX4_hold Fc wA (by omega) (fun i hi => (ha i hi).trans (lo i hi).symm) hp5 h1 hq5 h2 a b, ctX5_hold Fm w (by omega) hp5 h3 a b, ?_⟩
  by_cases hk : ok_hold (sp_acts M p) m a b
  · rw [if_pos hk, if_pos hk]
    obtain ⟨c, hc, rfl⟩ := sp_has_n (by have := w.2.1; omega) hk.1.1
    have hcN : cN (nI c) = c := nI_clamp (by have := w.2.1; omega)
    rw [hcN]
    have hm5 := w.2.1
    exact ⟨_, _, _, _, _, lw_act hI (sp_W_st wA hc b) ht (fun i hi => gl_upd_ne (hC (by omega) (by omega) hi))⟩
  · rw [if_neg hk, if_neg hk]
    exact ⟨n, m, t, p, q, hI⟩
theorem st_fail (Fc Fm : gl_F) {G M : Nat → Int32} (h : lw_Inv G M) (a : Int32) : ∃ v G' M', gl_Ct Fc LC yX4_fail wsX4_fail rmX4_fail [.ref (gl_r Fc 126), .int a] G (some (.int v)) G' ∧ gl_Ct Fm LM yX5_fail wsX5_fail rmX5_fail [.ref (gl_r Fm 0), .int a] M (some (.int v)) M' ∧ lw_Inv G' M' := by
  obtain ⟨n, m, t, p, q, hI⟩ := h
  obtain ⟨w, ht, ha, hp5, hq5, h1, h2, h3, hj⟩ := id hI
  have lo := sp_acts_lo (M := M) (p := p)
  have wA := sp_W_lo lo w
  refine ⟨_, _, _, ctX4_fail Fc wA (by omega) (fun i hi => (ha i hi).trans (lo i hi).symm) hp5 h1 hq5 h2 a, ctX5_fail Fm w (by omega) hp5 h3 a, ?_⟩
  by_cases hk : ok_fail (sp_acts M p) m a
  · rw [if_pos hk, if_pos hk]
    have hm5 := w.2.1
    obtain ⟨c, hc, rfl⟩ := sp_has_n (by omega) hk.1
    have hcN : cN (nI c) = c := nI_clamp (by omega)
    rw [hcN]
    exact ⟨_, _, _, _, _, lw_act hI (sp_fail_W wA hc) ht (fun i hi => sp_fail_hi (by omega) w.1 hi)⟩
  · rw [if_neg hk, if_neg hk]
    exact ⟨n, m, t, p, q, hI⟩
theorem st_repair (Fc Fm : gl_F) {G M : Nat → Int32} (h : lw_Inv G M) (a : Int32) : ∃ v G' M', gl_Ct Fc LC yX4_repair wsX4_repair rmX4_repair [.ref (gl_r Fc 126), .int a] G (some (.int v)) G' ∧ gl_Ct Fm LM yX5_repair wsX5_repair rmX5_repair [.ref (gl_r Fm 0), .int a] M (some (.int v)) M' ∧ lw_Inv G' M' := by
  obtain ⟨n, m, t, p, q, hI⟩ := h
  obtain ⟨w, ht, ha, hp5, hq5, h1, h2, h3, hj⟩ := id hI
  have lo := sp_acts_lo (M := M) (p := p)
  have wA := sp_W_lo lo w
  refine ⟨_, _, _, ctX4_repair Fc wA (by omega) (fun i hi => (ha i hi).trans (lo i hi).symm) hp5 h1 hq5 h2 a, ctX5_repair Fm w (by omega) hp5 h3 a, ?_⟩
  by_cases hk : ok_repair (sp_acts M p) m a
  · rw [if_pos hk, if_pos hk]
    have hm5 := w.2.1
    obtain ⟨c, hc, rfl⟩ := sp_has_n (by omega) hk.1
    have hcN : cN (nI c) = c := nI_clamp (by omega)
    rw [hcN]
    exact ⟨_, _, _, _, _, lw_act hI (sp_W_st wA hc _) ht (fun i hi => gl_upd_ne (hC (by omega) (by omega) hi))⟩
  · rw [if_neg hk, if_neg hk]
    exact ⟨n, m, t, p, q, hI⟩
theorem st_call (Fc Fm : gl_F) {G M : Nat → Int32} (h : lw_Inv G M) (a b : Int32) : ∃ v G' M', gl_Ct Fc LC yX4_call wsX4_call rmX4_call [.ref (gl_r Fc 126), .int a, .int b] G (some (.int v)) G' ∧ gl_Ct Fm LM yX5_call wsX5_call rmX5_call [.ref (gl_r Fm 0), .int a, .int b] M (some (.int v)) M' ∧ lw_Inv G' M' := by
  obtain ⟨n, m, t, p, q, hI⟩ := h
  obtain ⟨w, ht, ha, hp5, hq5, h1, h2, h3, hj⟩ := id hI
  have lo := sp_acts_lo (M := M) (p := p)
  have wA := sp_W_lo lo w
  refine ⟨_, _, _, ctX4_call Fc wA (by omega) (fun i hi => (ha i hi).trans (lo i hi).symm) hp5 h1 hq5 h2 a b, ctX5_call Fm w (by omega) hp5 h3 a b, ?_⟩
  by_cases hk : sp_way a b ∧ ¬ n = 40
  · rw [if_pos hk, if_pos hk]
    have hn40 := w.1
    have wK := sp_addK_W wA (by omega) (sp_isf_fl hk.1.1) (sp_isf_fl hk.1.2.1) (tk := nI t)
    have a2 := (sp_addK_0 (M := sp_acts M p) (n := n) (f := a) (g := b) (tk := nI t)).2.2.1
    exact ⟨_, _, _, _, _, lw_act hI (sp_give_W wK (by omega) (by rw [a2]; decide) _) ht (fun i hi => (sp_give_hi (by omega) hi).trans (sp_addK_lo (by omega) (fun w hw => hK (by omega) hw hi)))⟩
  · rw [if_neg hk, if_neg hk]
    exact ⟨n, m, t, p, q, hI⟩
theorem st_pass (Fc Fm : gl_F) {G M : Nat → Int32} (h : lw_Inv G M) (a : Int32) : ∃ v G' M', gl_Ct Fc LC yX4_pass wsX4_pass rmX4_pass [.ref (gl_r Fc 126), .int a] G (some (.int v)) G' ∧ gl_Ct Fm LM yX5_pass wsX5_pass rmX5_pass [.ref (gl_r Fm 0), .int a] M (some (.int v)) M' ∧ lw_Inv G' M' := by
  obtain ⟨n, m, t, p, q, hI⟩ := h
  obtain ⟨w, ht, ha, hp5, hq5, h1, h2, h3, hj⟩ := id hI
  have lo := sp_acts_lo (M := M) (p := p)
  have wA := sp_W_lo lo w
  refine ⟨_, _, _, ctX4_pass Fc wA (by omega) (fun i hi => (ha i hi).trans (lo i hi).symm) hp5 h1 hq5 h2 a, ctX5_pass Fm w (by omega) hp5 h3 a, ?_⟩
  by_cases hk : ok_pass t a
  · rw [if_pos hk, if_pos hk]
    obtain ⟨j, -, hj2, rfl⟩ := sp_inr_n (by omega) (by omega) hk.1
    have hcN : cN (nI j) = j := nI_clamp (by omega)
    rw [hcN]
    have h20 := hk.2
    rw [nI_add, nI_ltI (by omega) (by omega)] at h20
    exact ⟨_, _, _, _, _, lw_act hI (sp_run_W wA j) (by omega) (fun i hi => sp_run_hi w.1 w.2.1 hi j)⟩
  · rw [if_neg hk, if_neg hk]
    exact ⟨n, m, t, p, q, hI⟩
theorem st_undo (Fc Fm : gl_F) {G M : Nat → Int32} (h : lw_Inv G M) : ∃ v G' M', gl_Ct Fc LC yX4_undo wsX4_undo rmX4_undo [.ref (gl_r Fc 126)] G (some (.int v)) G' ∧ gl_Ct Fm LM yX5_undo wsX5_undo rmX5_undo [.ref (gl_r Fm 0)] M (some (.int v)) M' ∧ lw_Inv G' M' := by
  obtain ⟨n, m, t, p, q, hI⟩ := h
  obtain ⟨w, ht, ha, hp5, hq5, h1, h2, h3, hj⟩ := id hI
  refine ⟨_, _, _, ctX4_undo Fc hp5 h1 hq5 h2, ctX5_undo Fm w (by omega) hp5 h3, ?_⟩
  by_cases hk : p = 0
  · rw [if_pos hk, if_pos hk]
    exact ⟨n, m, t, p, q, hI⟩
  · rw [if_neg hk, if_neg hk]
    obtain ⟨n', m', t', h'⟩ := lw_undo hI hk
    exact ⟨_, _, _, _, _, h'⟩
theorem st_count (Fc Fm : gl_F) {G M : Nat → Int32} (h : lw_Inv G M) (a : Int32) : ∃ v G' M', gl_Ct Fc LC yX4_count wsX4_count rmX4_count [.ref (gl_r Fc 126), .int a] G (some (.int v)) G' ∧ gl_Ct Fm LM yX5_count wsX5_count rmX5_count [.ref (gl_r Fm 0), .int a] M (some (.int v)) M' ∧ lw_Inv G' M' := by
  obtain ⟨n, m, t, p, q, hI⟩ := h
  obtain ⟨w, ht, ha, hp5, hq5, h1, h2, h3, hj⟩ := id hI
  exact ⟨_, _, _, ctX4_count Fc w (by omega) ha h1 a, ctX5_count Fm w (by omega) h3 a, n, m, t, p, q, hI⟩
theorem st_car (Fc Fm : gl_F) {G M : Nat → Int32} (h : lw_Inv G M) (a b : Int32) : ∃ v G' M', gl_Ct Fc LC yX4_car wsX4_car rmX4_car [.ref (gl_r Fc 126), .int a, .int b] G (some (.int v)) G' ∧ gl_Ct Fm LM yX5_car wsX5_car rmX5_car [.ref (gl_r Fm 0), .int a, .int b] M (some (.int v)) M' ∧ lw_Inv G' M' := by
  obtain ⟨n, m, t, p, q, hI⟩ := h
  obtain ⟨w, ht, ha, hp5, hq5, h1, h2, h3, hj⟩ := id hI
  exact ⟨_, _, _, ctX4_car Fc w (by omega) ha a b, ctX5_car Fm w (by omega) a b, n, m, t, p, q, hI⟩
theorem st_caller (Fc Fm : gl_F) {G M : Nat → Int32} (h : lw_Inv G M) (a b : Int32) : ∃ v G' M', gl_Ct Fc LC yX4_caller wsX4_caller rmX4_caller [.ref (gl_r Fc 126), .int a, .int b] G (some (.int v)) G' ∧ gl_Ct Fm LM yX5_caller wsX5_caller rmX5_caller [.ref (gl_r Fm 0), .int a, .int b] M (some (.int v)) M' ∧ lw_Inv G' M' := by
  obtain ⟨n, m, t, p, q, hI⟩ := h
  obtain ⟨w, ht, ha, hp5, hq5, h1, h2, h3, hj⟩ := id hI
  exact ⟨_, _, _, ctX4_caller Fc w (by omega) ha a b, ctX5_caller Fm w (by omega) a b, n, m, t, p, q, hI⟩
theorem st_group (Fc Fm : gl_F) {G M : Nat → Int32} (h : lw_Inv G M) (a b : Int32) : ∃ v G' M', gl_Ct Fc LC yX4_group wsX4_group rmX4_group [.ref (gl_r Fc 126), .int a, .int b] G (some (.int v)) G' ∧ gl_Ct Fm LM yX5_group wsX5_group rmX5_group [.ref (gl_r Fm 0), .int a, .int b] M (some (.int v)) M' ∧ lw_Inv G' M' := by
  obtain ⟨n, m, t, p, q, hI⟩ := h
  obtain ⟨w, ht, ha, hp5, hq5, h1, h2, h3, hj⟩ := id hI
  exact ⟨_, _, _, ctX4_group Fc w (by omega) ha a b, ctX5_group Fm w (by omega) a b, n, m, t, p, q, hI⟩
theorem st_cost (Fc Fm : gl_F) {G M : Nat → Int32} (h : lw_Inv G M) (a b c : Int32) : ∃ v G' M', gl_Ct Fc LC yX4_cost wsX4_cost rmX4_cost [.ref (gl_r Fc 126), .int a, .int b, .int c] G (some (.int v)) G' ∧ gl_Ct Fm LM yX5_cost wsX5_cost rmX5_cost [.ref (gl_r Fm 0), .int a, .int b, .int c] M (some (.int v)) M' ∧ lw_Inv G' M' := by
  obtain ⟨n, m, t, p, q, hI⟩ := h
  obtain ⟨w, ht, ha, hp5, hq5, h1, h2, h3, hj⟩ := id hI
  exact ⟨_, _, _, ctX4_cost Fc w (by omega) ha a b c, ctX5_cost Fm w (by omega) a b c, n, m, t, p, q, hI⟩
theorem st_would (Fc Fm : gl_F) {G M : Nat → Int32} (h : lw_Inv G M) (a b : Int32) : ∃ v G' M', gl_Ct Fc LC yX4_would wsX4_would rmX4_would [.ref (gl_r Fc 126), .int a, .int b] G (some (.int v)) G' ∧ gl_Ct Fm LM yX5_would wsX5_would rmX5_would [.ref (gl_r Fm 0), .int a, .int b] M (some (.int v)) M' ∧ lw_Inv G' M' := by
  obtain ⟨n, m, t, p, q, hI⟩ := h
  obtain ⟨w, ht, ha, hp5, hq5, h1, h2, h3, hj⟩ := id hI
  exact ⟨_, _, _, ctX4_would Fc w (by omega) ha a b, ctX5_would Fm w (by omega) a b, n, m, t, p, q, hI⟩
theorem st_waits (Fc Fm : gl_F) {G M : Nat → Int32} (h : lw_Inv G M) (a : Int32) : ∃ v G' M', gl_Ct Fc LC yX4_waits wsX4_waits rmX4_waits [.ref (gl_r Fc 126), .int a] G (some (.int v)) G' ∧ gl_Ct Fm LM yX5_waits wsX5_waits rmX5_waits [.ref (gl_r Fm 0), .int a] M (some (.int v)) M' ∧ lw_Inv G' M' := by
  obtain ⟨n, m, t, p, q, hI⟩ := h
  obtain ⟨w, ht, ha, hp5, hq5, h1, h2, h3, hj⟩ := id hI
  exact ⟨_, _, _, ctX4_waits Fc w (by omega) ha a, ctX5_waits Fm w (by omega) a, n, m, t, p, q, hI⟩
theorem st_thereIn (Fc Fm : gl_F) {G M : Nat → Int32} (h : lw_Inv G M) (a : Int32) : ∃ v G' M', gl_Ct Fc LC yX4_thereIn wsX4_thereIn rmX4_thereIn [.ref (gl_r Fc 126), .int a] G (some (.int v)) G' ∧ gl_Ct Fm LM yX5_thereIn wsX5_thereIn rmX5_thereIn [.ref (gl_r Fm 0), .int a] M (some (.int v)) M' ∧ lw_Inv G' M' := by
  obtain ⟨n, m, t, p, q, hI⟩ := h
  obtain ⟨w, ht, ha, hp5, hq5, h1, h2, h3, hj⟩ := id hI
  have lo := sp_save_lo (M := M) (b := 400) (by omega)
  refine ⟨_, _, _, ctX4_thereIn Fc (sp_W_lo lo w) (by omega) (fun i hi => (ha i hi).trans (lo i hi).symm) a, ctX5_thereIn Fm w (by omega) a, n, m, t, p, q, ?_⟩
  by_cases hk : sp_has a (nI n)
  · rw [if_pos hk, if_pos hk]
    refine lw_same hI (fun i hi => sp_blk_out (by omega)) (fun i hi => ?_)
    unfold sp_save sp_keep
    rw [if_neg (by omega)]
  · rw [if_neg hk, if_neg hk]
    exact hI
theorem sp_wG_hi {C S : Nat → Int32} {t n m i : Nat} (hi : ¬ (378 ≤ i ∧ i < 756)) : ∀ c, sp_wG C S t n m c i = C i := by
  intro c
  induction c with
  | zero => rfl
  | succ c ih =>
    simp only [sp_wG]
    split
    · exact ih
    · rw [sp_blk_out (by omega)]; exact ih
theorem st_worstCar (Fc Fm : gl_F) {G M : Nat → Int32} (h : lw_Inv G M) (a : Int32) : ∃ v G' M', gl_Ct Fc LC yX4_worstCar wsX4_worstCar rmX4_worstCar [.ref (gl_r Fc 126), .int a] G (some (.int v)) G' ∧ gl_Ct Fm LM yX5_worstCar wsX5_worstCar rmX5_worstCar [.ref (gl_r Fm 0), .int a] M (some (.int v)) M' ∧ lw_Inv G' M' := by
  obtain ⟨n, m, t, p, q, hI⟩ := h
  obtain ⟨w, ht, ha, hp5, hq5, h1, h2, h3, hj⟩ := id hI
  have lo := sp_save_lo (M := M) (b := 800) (by omega)
  refine ⟨_, _, _, ctX4_worstCar Fc (sp_W_lo lo w) (by omega) (fun i hi => (ha i hi).trans (lo i hi).symm) a, ctX5_worstCar Fm w (by omega) a, n, m, t, p, q, ?_⟩
  by_cases hk : sp_inr a (nI 0) (nI 1)
  · rw [if_pos hk, if_pos hk]
    refine lw_same hI (fun i hi => sp_wG_hi hi m) (fun i hi => ?_)
    rcases sp_wm_or (M := M) m with e | e
    · rw [e]
    · rw [e]
      unfold sp_save sp_keep
      rw [if_neg (by omega)]
  · rw [if_neg hk, if_neg hk]
    exact hI
