/-! ===== giving: the long of a caller who looks ===== -/
theorem qk_o {S S' : Nat → Int32} {A k : Nat} (h : ∀ w, w < 8 → S' (iK k w) = S (iK k w)) (q : qk S A k) : qk S' A k := by
  unfold qk at q ⊢
  rw [h 0 (by omega), h 1 (by omega), h 2 (by omega), h 3 (by omega), h 4 (by omega), h 5 (by omega), h 6 (by omega), h 7 (by omega)]
  exact q
theorem qW_K {S S' : Nat → Int32} {A n k : Nat} (q : qW S A n) (ho : ∀ i, (∀ w, w < 8 → i ≠ iK k w) → S' i = S i) (h : qk S' A k) : qW S' A n := by
  refine ⟨q.1, fun j hj => ?_⟩
  by_cases e : j = k
  · rw [e]; exact h
  · exact qk_o (fun w hw => ho _ (fun v hv => iK_ne hw hv (fun z => e z.1))) (q.2 j hj)
theorem qW_o {S S' : Nat → Int32} {A n : Nat} (q : qW S A n) (ho : ∀ j w, w < 8 → S' (iK j w) = S (iK j w)) : qW S' A n := ⟨q.1, fun j hj => qk_o (fun w hw => ho j w hw) (q.2 j hj)⟩
section GV
variable {S : Nat → Int32} {A n k c : Nat}
theorem give_at (hc : c < 5) : (∀ i, (∀ w, w < 8 → i ≠ iK k w) → sp_give S k (nI c) i = S i) ∧ sp_give S k (nI c) (iK k 0) = S (iK k 0) ∧ sp_give S k (nI c) (iK k 1) = S (iK k 1) ∧ sp_give S k (nI c) (iK k 2) = nI 1 ∧ sp_give S k (nI c) (iK k 3) = nI c ∧ sp_give S k (nI c) (iK k 4) = S (iK k 4) ∧ sp_give S k (nI c) (iK k 5) = S (iK k 5) ∧ sp_give S k (nI c) (iK k 6) = S (iK k 6) ∧ sp_give S k (nI c) (iK k 7) = S (iK k 7) + nI 1 := by
  unfold sp_give
  rw [if_neg (n9 (by omega))]
  refine ⟨fun i hi => by rw [oK (by omega) hi, oK (by omega) hi, oK (by omega) hi], ?_, ?_, ?_, ?_, ?_, ?_, ?_, ?_⟩
  · rw [rK (by omega) (by omega) (by omega), rK (by omega) (by omega) (by omega), rK (by omega) (by omega) (by omega)]
  · rw [rK (by omega) (by omega) (by omega), rK (by omega) (by omega) (by omega), rK (by omega) (by omega) (by omega)]
  · rw [rK (by omega) (by omega) (by omega), rK (by omega) (by omega) (by omega), gl_upd_eq]
  · rw [rK (by omega) (by omega) (by omega), gl_upd_eq]
  · rw [rK (by omega) (by omega) (by omega), rK (by omega) (by omega) (by omega), rK (by omega) (by omega) (by omega)]
  · rw [rK (by omega) (by omega) (by omega), rK (by omega) (by omega) (by omega), rK (by omega) (by omega) (by omega)]
  · rw [rK (by omega) (by omega) (by omega), rK (by omega) (by omega) (by omega), rK (by omega) (by omega) (by omega)]
  · rw [gl_upd_eq]
theorem nI_z {s : Nat} (hs : s < 2 ^ 31) (h : nI s = 0) : s = 0 := (nI_eq hs (by omega)).mp (h.trans nI_0'.symm)
theorem qk_give (q : qk S A k) (h0 : S (iK k 2) = 0) (hc : c < 5) : qk (sp_give S k (nI c)) A k := by
  obtain ⟨-, g0, g1, g2, g3, g4, g5, g6, g7⟩ := give_at (S := S) (k := k) hc
  obtain ⟨f, g, s, b, u, a, x, y, hf, hg, hs, hb, hu, ha, hx, hy, q1, q2, q3, h0', h1, h2, h3, h7, h4, h5, h6⟩ := q
  have es : s = 0 := nI_z (by omega) (h2.symm.trans h0)
  subst es
  refine ⟨f, g, 1, c + 1, u + 1, a, x, y, hf, hg, by omega, by omega, by simp at hu ⊢; omega, ha, hx, hy, by omega, by omega, fun _ => q3 (by omega), g0.trans h0', g1.trans h1, g2, by rw [g3, qN_s], by rw [g7, h7, nI_add], g4.trans h4, g5.trans h5, g6.trans h6⟩
theorem lN256 : (256 : Int64) = lN 256 := rfl
theorem lN8192 : (8192 : Int64) = lN 8192 := rfl
theorem lN1 : (1 : Int64) = lN 1 := rfl
theorem lg_give_mem (hA : A < 2048) (hk : k < n) (hn : n ≤ 40) (q : qk S A k) (h0 : S (iK k 2) = 0) (hc : c < 5) : upd2 (en S n) (100 + 2 * k) (lN (pkn S k) + (256 + ((nI c).toInt64 + 1) <<< ((nI 10).toInt64 &&& 63) + 8192)) = en (sp_give S k (nI c)) n := by
  obtain ⟨go, g0, g1, g2, g3, g4, g5, g6, g7⟩ := give_at (S := S) (k := k) hc
  refine en_uck hk hn go g5 g6 ?_
  obtain ⟨f, g, s, b, u, a, x, y, hf, hg, hs, hb, hu, ha, hx, hy, q1, q2, q3, h0', h1, h2, h3, h7, h4, h5, h6⟩ := q
  have es : s = 0 := nI_z (by omega) (h2.symm.trans h0)
  subst es
  have eb := q1 rfl
  subst eb
  rw [pkn_q hf hg hs hb (by omega) (by omega) h0' h1 h2 h3 h7 h4, pkn_q (S := sp_give S k (nI c)) (f := f) (g := g) (s := 1) (b := c + 1) (u := u + 1) (a := a) hf hg (by omega) (by omega) (by omega) (by omega) (g0.trans h0') (g1.trans h1) g2 (by rw [g3, qN_s]) (by rw [g7, h7, nI_add]) (g4.trans h4)]
  rw [nI_l (by omega), lN1, lN_add, wb_shl _ (by omega), lN256, lN8192, lN_add, lN_add, lN_add]
  congr 1
  omega
end GV
/-! ===== the aim, from near to far ===== -/
def dN (x o : Nat) : Nat := if x < o then o - x else x - o
theorem sp_far_nn : ∀ x, x < 16 → ∀ o, o < 16 → sp_far (nI x) (nI o) = nI (dN x o) := by decide +kernel
theorem dN_lt {x o : Nat} (hx : x < 16) (ho : o < 16) : dN x o < 16 := by unfold dN; split <;> omega
theorem near_nn {x y o : Nat} (hx : x < 16) (hy : y < 16) (ho : o < 16) : sp_near (nI x) (nI y) (nI o) ↔ (dN x o < dN y o ∨ (dN x o = dN y o ∧ x < y)) := by
  have h1 := dN_lt hx ho
  have h2 := dN_lt hy ho
  unfold sp_near
  rw [sp_far_nn x hx o ho, sp_far_nn y hy o ho, nI_ltI (by omega) (by omega), nI_eq (by omega) (by omega), nI_ltI (by omega) (by omega)]
theorem lg_aims_min {n m t : Nat} {S : Nat → Int32} (w : sp_W n m t S) {c : Int32} {o : Nat} (ho : o < 16) : ∀ k, k ≤ n → ((sp_aims S c (nI o) k).1 = -9 ∧ ∀ j, j < k → ¬ sp_rd S j c) ∨ ∃ y, y < 16 ∧ (sp_aims S c (nI o) k).1 = nI y ∧ (∃ j, j < k ∧ sp_rd S j c ∧ S (iK j 1) = nI y) ∧ ∀ j, j < k → sp_rd S j c → ∀ x, x < 16 → S (iK j 1) = nI x → dN y o < dN x o ∨ (dN y o = dN x o ∧ y ≤ x) := by
  obtain ⟨hn40, hm5, hn, hm, ht, hcar, hcal⟩ := w
  intro k
  induction k with
  | zero => intro _; exact Or.inl ⟨rfl, fun j h => absurd h (by omega)⟩
  | succ k ih =>
    intro hk
    have h := ih (by omega)
    obtain ⟨z, hz, ez⟩ := (hcal k (by omega)).2.1
    simp only [sp_aims]
    by_cases r : sp_rd S k c
    · rw [if_pos r]
      rcases h with ⟨e, h⟩ | ⟨y, hy, e, ⟨j0, hj0, r0, e0⟩, h⟩
      · rw [if_pos (Or.inl e)]
        refine Or.inr ⟨z, hz, ez, ⟨k, by omega, r, ez⟩, fun j hj hr x hx ex => ?_⟩
        by_cases hjk : j = k
        · subst hjk
          have : z = x := (nI_eq (by omega) (by omega)).mp (ez.symm.trans ex)
          subst this
          exact Or.inr ⟨rfl, Nat.le_refl _⟩
        · exact absurd hr (h j (by omega))
      · rw [e, ez]
        by_cases q : dN z o < dN y o ∨ (dN z o = dN y o ∧ z < y)
        · rw [if_pos (Or.inr ((near_nn hz hy ho).mpr q))]
          refine Or.inr ⟨z, hz, rfl, ⟨k, by omega, r, ez⟩, fun j hj hr x hx ex => ?_⟩
          by_cases hjk : j = k
          · subst hjk
            have : z = x := (nI_eq (by omega) (by omega)).mp (ez.symm.trans ex)
            subst this
            exact Or.inr ⟨rfl, Nat.le_refl _⟩
          · have := h j (by omega) hr x hx ex
            omega
        · rw [if_neg (fun v => v.elim (n9 (by omega)) (fun v => q ((near_nn hz hy ho).mp v)))]
          refine Or.inr ⟨y, hy, rfl, ⟨j0, by omega, r0, e0⟩, fun j hj hr x hx ex => ?_⟩
          by_cases hjk : j = k
          · subst hjk
            have : z = x := (nI_eq (by omega) (by omega)).mp (ez.symm.trans ex)
            subst this
            omega
          · exact h j (by omega) hr x hx ex
    · rw [if_neg r]
      have e2 : (if (sp_aims S c (nI o) k).2 = -9 ∧ sp_wt S k c then ((sp_aims S c (nI o) k).1, S (iK k 0)) else sp_aims S c (nI o) k).1 = (sp_aims S c (nI o) k).1 := by split <;> rfl
      rw [e2]
      rcases h with ⟨e, h⟩ | ⟨y, hy, e, ⟨j0, hj0, r0, e0⟩, h⟩
      · refine Or.inl ⟨e, fun j hj hr => ?_⟩
        by_cases hjk : j = k
        · subst hjk; exact r hr
        · exact h j (by omega) hr
      · refine Or.inr ⟨y, hy, e, ⟨j0, by omega, r0, e0⟩, fun j hj hr x hx ex => ?_⟩
        by_cases hjk : j = k
        · subst hjk; exact absurd hr r
        · exact h j (by omega) hr x hx ex
/-- the law's floor: below, then above -/
def lg_f (fl : Int32) (j i : Nat) : Int32 := if i = 0 then fl - nI j else fl + nI j
theorem lg_f0 {fl : Int32} {j i : Nat} (hi : i < 2) (h : nI i = 0) : fl - nI j = lg_f fl j i := (if_pos (nI_z (by omega) h)).symm
theorem lg_f1 {fl : Int32} {j i : Nat} (h : ¬ nI i = 0) : fl + nI j = lg_f fl j i := (if_neg (fun z => h (by rw [z]; exact nI_0'))).symm
theorem lg_f_dn {o j y : Nat} (ho : o < 16) (hj : j < 16) (hy : y < 16) (h : nI y = nI o - nI j) : y + j = o := by
  have := congrArg Int32.toInt h
  rw [nI_toInt (by omega), pk_sub_toInt (by omega) (by omega)] at this
  omega
theorem lg_f_up {o j y : Nat} (ho : o < 16) (hj : j < 16) (hy : y < 16) (h : nI y = nI o + nI j) : y = o + j := by
  rw [nI_add] at h
  exact (nI_eq (by omega) (by omega)).mp h
/-- how far all who ride want to go: at least j floors -/
def lg_cl (S : Nat → Int32) (c : Int32) (n o j : Nat) : Prop := ∀ k, k < n → sp_rd S k c → ∀ x, x < 16 → S (iK k 1) = nI x → j ≤ dN x o
def lg_ci (S : Nat → Int32) (c : Int32) (n o j i : Nat) : Prop := ∀ k, k < n → sp_rd S k c → ∀ i', i' < i → S (iK k 1) ≠ lg_f (nI o) j i'
def lg_ck (S : Nat → Int32) (c : Int32) (k : Nat) (f : Int32) : Prop := ∀ k', k' < k → sp_rd S k' c → S (iK k' 1) ≠ f
theorem lg_ck_s {S : Nat → Int32} {c : Int32} {k : Nat} {f : Int32} (h : lg_ck S c k f) (h2 : ¬ (sp_rd S k c ∧ S (iK k 1) = f)) : lg_ck S c (k + 1) f := by
  intro k' hk' hr e
  by_cases q : k' = k
  · subst q; exact h2 ⟨hr, e⟩
  · exact h k' (by omega) hr e
theorem lg_ci_s {S : Nat → Int32} {c : Int32} {n o j i : Nat} (h : lg_ci S c n o j i) (h2 : lg_ck S c n (lg_f (nI o) j i)) : lg_ci S c n o j (i + 1) := by
  intro k hk hr i' hi'
  by_cases q : i' = i
  · subst q; exact h2 k hk hr
  · exact h k hk hr i' (by omega)
theorem lg_cl_s {S : Nat → Int32} {c : Int32} {n o j : Nat} (h : lg_cl S c n o j) (h2 : lg_ci S c n o j 2) : lg_cl S c n o (j + 1) := by
  intro k hk hr x hx ex
  have h3 := h k hk hr x hx ex
  have a0 := h2 k hk hr 0 (by omega)
  have a1 := h2 k hk hr 1 (by omega)
  rw [ex] at a0 a1
  have b0 : ¬ x + j = o := fun z => a0 (by unfold lg_f; rw [if_pos rfl, pk_sub (by omega)]; congr 1; omega)
  have b1 : ¬ x = o + j := fun z => a1 (by unfold lg_f; rw [if_neg (by omega), nI_add, z])
  unfold dN at h3 ⊢
  by_cases q : x < o
  · rw [if_pos q] at h3 ⊢; omega
  · rw [if_neg q] at h3 ⊢; omega
theorem lg_aim_hit {n m t : Nat} {S : Nat → Int32} (w : sp_W n m t S) {c : Int32} {o j i k : Nat} (ho : o < 16) (hj : j < 16) (hi : i < 2) (hk : k < n) (h1 : lg_cl S c n o j) (h2 : lg_ci S c n o j i) (hr : sp_rd S k c) (hf : S (iK k 1) = lg_f (nI o) j i) : lg_f (nI o) j i = sp_aim S c (nI o) n := by
  obtain ⟨y, hy, ey⟩ := (w.2.2.2.2.2.2 k hk).2.1
  have dy : dN y o = j ∧ (i = 0 → y + j = o) ∧ (i = 1 → y = o + j) := by
    rw [ey] at hf
    rcases (show i = 0 ∨ i = 1 by omega) with e | e
    · subst e
      have := lg_f_dn ho hj hy (hf.trans (if_pos rfl))
      unfold dN
      refine ⟨by split <;> omega, fun _ => this, fun z => by omega⟩
    · subst e
      have := lg_f_up ho hj hy (hf.trans (if_neg (by omega)))
      unfold dN
      refine ⟨by split <;> omega, fun z => by omega, fun _ => this⟩
  rcases lg_aims_min w (c := c) ho n (Nat.le_refl _) with ⟨e, h⟩ | ⟨z, hz, e, ⟨j0, hj0, r0, e0⟩, h⟩
  · exact absurd hr (h k hk)
  · have hzy := h k hk hr y hy ey
    have hz1 := h1 j0 hj0 r0 z hz e0
    have : z = y := by
      rcases hzy with q | ⟨q, q2⟩
      · omega
      · rcases (show i = 0 ∨ i = 1 by omega) with ei | ei
        · have := dy.2.1 ei
          unfold dN at q hz1 dy
          split at q <;> split at q <;> omega
        · have h3 := dy.2.2 ei
          have h4 := h2 j0 hj0 r0 0 (by omega)
          have h5 : ¬ z + j = o := fun v => h4 (by rw [e0]; unfold lg_f; rw [if_pos rfl, pk_sub (by omega)]; congr 1; omega)
          unfold dN at q hz1 dy
          split at q <;> split at q <;> omega
    unfold sp_aim
    rw [e, if_neg (n9 (by omega)), ← hf, ey, this]
theorem lg_cl_no {n m t : Nat} {S : Nat → Int32} (w : sp_W n m t S) {c : Int32} {o : Nat} (ho : o < 16) (h : lg_cl S c n o 16) : ∀ k, k < n → ¬ sp_rd S k c := by
  intro k hk hr
  obtain ⟨y, hy, ey⟩ := (w.2.2.2.2.2.2 k hk).2.1
  have := h k hk hr y hy ey
  have := dN_lt hy ho
  omega
theorem lg_aims_no {S : Nat → Int32} {c fl : Int32} {n : Nat} (h : ∀ k, k < n → ¬ sp_rd S k c) : ∀ k, k ≤ n → (sp_aims S c fl k).1 = -9 := by
  intro k
  induction k with
  | zero => intro _; rfl
  | succ k ih =>
    intro hk
    simp only [sp_aims]
    rw [if_neg (h k (by omega))]
    split
    · exact ih (by omega)
    · exact ih (by omega)
theorem lg_aims_w0 {S : Nat → Int32} {c fl : Int32} {n : Nat} (h : ∀ k, k < n → ¬ sp_rd S k c) : ∀ k, k ≤ n → (∀ j, j < k → ¬ sp_wt S j c) → (sp_aims S c fl k).2 = -9 := by
  intro k
  induction k with
  | zero => intro _ _; rfl
  | succ k ih =>
    intro hk hw
    simp only [sp_aims]
    rw [if_neg (h k (by omega)), if_neg (fun z => hw k (by omega) z.2)]
    exact ih (by omega) (fun j hj => hw j (by omega))
theorem lg_aims_w1 {n m t : Nat} {S : Nat → Int32} (w : sp_W n m t S) {c fl : Int32} (h : ∀ k, k < n → ¬ sp_rd S k c) {k : Nat} (hk : k < n) (hw : sp_wt S k c) (h0 : ∀ j, j < k → ¬ sp_wt S j c) : ∀ d, k + 1 + d ≤ n → (sp_aims S c fl (k + 1 + d)).2 = S (iK k 0) := by
  obtain ⟨z, hz, ez⟩ := (w.2.2.2.2.2.2 k hk).1
  intro d
  induction d with
  | zero =>
    intro _
    show (sp_aims S c fl (k + 1)).2 = _
    simp only [sp_aims]
    rw [if_neg (h k hk), if_pos ⟨lg_aims_w0 h k (by omega) h0, hw⟩]
  | succ d ih =>
    intro hd
    have h2 := ih (by omega)
    show (sp_aims S c fl (k + 1 + d + 1)).2 = _
    simp only [sp_aims]
    rw [if_neg (h _ (by omega)), if_neg (fun v => n9 (c := z) (by omega) (ez.symm.trans (h2.symm.trans v.1)))]
    exact h2
theorem lg_aim_w {n m t : Nat} {S : Nat → Int32} (w : sp_W n m t S) {c fl : Int32} (h : ∀ k, k < n → ¬ sp_rd S k c) {k : Nat} (hk : k < n) (hw : sp_wt S k c) (h0 : ∀ j, j < k → ¬ sp_wt S j c) : S (iK k 0) = sp_aim S c fl n := by
  unfold sp_aim
  rw [if_pos (lg_aims_no h n (Nat.le_refl _))]
  have := lg_aims_w1 w (fl := fl) h hk hw h0 (n - (k + 1)) (by omega)
  rw [show k + 1 + (n - (k + 1)) = n by omega] at this
  exact this.symm
theorem lg_aim_n {S : Nat → Int32} {c fl : Int32} {n : Nat} (h : ∀ k, k < n → ¬ sp_rd S k c) (h0 : ∀ j, j < n → ¬ sp_wt S j c) : -9 = sp_aim S c fl n := by
  unfold sp_aim
  rw [if_pos (lg_aims_no h n (Nat.le_refl _)), lg_aims_w0 h n (Nat.le_refl _) h0]
def lg_cw (S : Nat → Int32) (c : Int32) (k : Nat) : Prop := ∀ j, j < k → ¬ sp_wt S j c
theorem lg_cw_s {S : Nat → Int32} {c : Int32} {k : Nat} (h : lg_cw S c k) (h2 : ¬ sp_wt S k c) : lg_cw S c (k + 1) := by
  intro j hj
  by_cases q : j = k
  · subst q; exact h2
  · exact h j (by omega)
