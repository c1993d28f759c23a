/-! ===== what the class and the model have to do with each other, between calls ===== -/
abbrev sp_st (M : Nat → Int32) (j : Nat) : Nat → Int32 := fun i => M (1200 + 378 * j + i)
def lw_I (n m t p q : Nat) (G M : Nat → Int32) : Prop := sp_W n m t M ∧ t ≤ 20000 ∧ sp_ag G 0 M ∧ p ≤ 5 ∧ q < 5 ∧ G 2646 = nI p ∧ G 2647 = nI q ∧ M 378 = nI p ∧ ∀ j, j < p → sp_ag G (2 + (q + 5 - p + j) % 5) (sp_st M j) ∧ ∃ n' m' t', t' ≤ 20000 ∧ sp_W n' m' t' (sp_st M j)
def lw_Inv (G M : Nat → Int32) : Prop := ∃ n m t p q, lw_I n m t p q G M
/-- nothing that counts has changed -/
theorem lw_same {n m t p q : Nat} {G M G' M' : Nat → Int32} (h : lw_I n m t p q G M) (hG : ∀ i, ¬ (378 ≤ i ∧ i < 756) → G' i = G i) (hM : ∀ i, i ≤ 378 ∨ 1200 ≤ i → M' i = M i) : lw_I n m t p q G' M' := by
  obtain ⟨w, ht, ha, hp5, hq5, h1, h2, h3, hj⟩ := h
  refine ⟨sp_W_lo (fun i hi => hM i (by omega)) w, ht, fun i hi => ?_, hp5, hq5, by rw [hG _ (by omega)]; exact h1, by rw [hG _ (by omega)]; exact h2, by rw [hM _ (by omega)]; exact h3, fun j hjp => ?_⟩
  · rw [hG _ (by omega), hM i (by omega)]; exact ha i hi
  · obtain ⟨a, n', m', t', ht', w'⟩ := hj j hjp
    refine ⟨fun i hi => ?_, n', m', t', ht', sp_W_lo (fun i hi => hM _ (by omega)) w'⟩
    show G' _ = M' _
    rw [hG _ (by omega), hM _ (by omega)]
    exact a i hi
theorem sp_acts_p {M : Nat → Int32} {p : Nat} : sp_acts M p 378 = nI (if p = 5 then 5 else p + 1) := by
  unfold sp_acts
  split
  · rw [gl_upd_eq]
  · rw [gl_upd_eq]
theorem sp_acts_st {M : Nat → Int32} {p j i : Nat} (hp : p ≤ 5) (hj : j < (if p = 5 then 5 else p + 1)) (hi : i < 378) : sp_acts M p (1200 + 378 * j + i) = if j + 1 = (if p = 5 then 5 else p + 1) then M i else M (1200 + 378 * (if p = 5 then j + 1 else j) + i) := by
  unfold sp_acts
  by_cases h5 : p = 5
  · simp only [if_pos h5] at hj ⊢
    rw [gl_upd_ne (by omega)]
    unfold sp_keep
    by_cases hj4 : j = 4
    · rw [if_pos (by omega), if_pos (by omega), gl_upd_ne (by omega)]
      unfold sp_shift
      rw [if_neg (by omega), show 1200 + 378 * j + i - 2712 = i by omega]
    · rw [if_neg (by omega), if_neg (by omega), gl_upd_ne (by omega)]
      unfold sp_shift
      rw [if_pos (by omega), show 1200 + 378 * j + i + 378 = 1200 + 378 * (j + 1) + i by omega]
  · simp only [if_neg h5] at hj ⊢
    rw [gl_upd_ne (by omega)]
    unfold sp_keep
    by_cases hjp : j = p
    · rw [if_pos (by omega), if_pos (by omega), show 1200 + 378 * j + i - (1200 + 378 * p) = i by omega]
    · rw [if_neg (by omega), if_neg (by omega)]
/-- an action -/
theorem lw_act {n m t p q n' m' t' : Nat} {G M S' : Nat → Int32} (h : lw_I n m t p q G M) (hw : sp_W n' m' t' S') (ht' : t' ≤ 20000) (hhi : ∀ i, 378 ≤ i → S' i = sp_acts M p i) : lw_I n' m' t' (if p = 5 then 5 else p + 1) ((q + 1) % 5) (sp_blk (sp_keepC G p q) 0 S') S' := by
  obtain ⟨w, ht, ha, hp5, hq5, h1, h2, h3, hj⟩ := h
  have hb : ∀ i, 378 ≤ i → sp_blk (sp_keepC G p q) 0 S' i = sp_keepC G p q i := fun i hi => sp_blk_out (by omega)
  refine ⟨hw, ht', sp_blk_ag, by split <;> omega, Nat.mod_lt _ (by omega), ?_, ?_, ?_, fun j hjp => ?_⟩
  · rw [hb _ (by omega)]; unfold sp_keepC; rw [gl_upd_eq]
  · rw [hb _ (by omega)]; unfold sp_keepC; rw [gl_upd_ne (by omega), gl_upd_eq]
  · rw [hhi _ (by omega)]; exact sp_acts_p
  · have e1 : ∀ i, i < 378 → sp_st S' j i = if j + 1 = (if p = 5 then 5 else p + 1) then M i else M (1200 + 378 * (if p = 5 then j + 1 else j) + i) := fun i hi => by
      show S' (1200 + 378 * j + i) = _
      rw [hhi _ (by omega)]
      exact sp_acts_st hp5 hjp hi
    have e2 : ∀ a i, a < 5 → i < 378 → sp_blk (sp_keepC G p q) 0 S' (378 * (2 + a) + i) = if a = q then G (378 * 0 + i) else G (378 * (2 + a) + i) := fun a i ha5 hi => by
      rw [hb _ (by omega)]
      unfold sp_keepC
      rw [gl_upd_ne (by omega), gl_upd_ne (by omega)]
      by_cases haq : a = q
      · rw [if_pos haq, haq, sp_blk_in hi]
      · rw [if_neg haq, sp_blk_out (by omega)]
    by_cases hl : j + 1 = (if p = 5 then 5 else p + 1)
    · have ea : ((q + 1) % 5 + 5 - (if p = 5 then 5 else p + 1) + j) % 5 = q := by
        have hj5 : j + 1 ≤ 5 := by rw [hl]; split <;> omega
        rw [← hl]; omega
      refine ⟨fun i hi => ?_, n, m, t, ht, sp_W_lo (M := M) (fun i hi => by rw [e1 i hi, if_pos hl]) w⟩
      rw [ea, e2 q i hq5 hi, if_pos rfl, e1 i hi, if_pos hl]
      exact ha i hi
    · have hjo : (if p = 5 then j + 1 else j) < p := by
        by_cases h5 : p = 5
        · simp only [if_pos h5] at hjp hl ⊢; omega
        · simp only [if_neg h5] at hjp hl ⊢; omega
      obtain ⟨a, n', m', t', ht', w'⟩ := hj _ hjo
      have ea : ((q + 1) % 5 + 5 - (if p = 5 then 5 else p + 1) + j) % 5 = (q + 5 - p + (if p = 5 then j + 1 else j)) % 5 := by
        by_cases h5 : p = 5
        · simp only [if_pos h5]; omega
        · simp only [if_neg h5] at hjo ⊢; omega
      have hne : (q + 5 - p + (if p = 5 then j + 1 else j)) % 5 ≠ q := by
        by_cases h5 : p = 5
        · simp only [if_pos h5] at hjo ⊢; omega
        · simp only [if_neg h5] at hjo ⊢; omega
      refine ⟨fun i hi => ?_, n', m', t', ht', sp_W_lo (fun i hi => by rw [e1 i hi, if_neg hl]) w'⟩
      rw [ea, e2 _ i (Nat.mod_lt _ (by omega)) hi, if_neg hne, e1 i hi, if_neg hl]
      exact a i hi
theorem lw_undo {n m t p q : Nat} {G M : Nat → Int32} (h : lw_I n m t p q G M) (hp : ¬ p = 0) : ∃ n' m' t', lw_I n' m' t' (p - 1) ((q + 4) % 5) (sp_restC G p ((q + 4) % 5)) (sp_undo M p) := by
  obtain ⟨w, ht, ha, hp5, hq5, h1, h2, h3, hj⟩ := h
  obtain ⟨a0, n', m', t', ht', w'⟩ := hj (p - 1) (by omega)
  have es : (q + 5 - p + (p - 1)) % 5 = (q + 4) % 5 := by omega
  rw [es] at a0
  have eM : ∀ i, i < 378 → sp_undo M p i = M (1200 + 378 * (p - 1) + i) := fun i hi => by
    unfold sp_undo sp_back
    rw [if_pos hi, gl_upd_ne (by omega)]
  have eM2 : ∀ i, 378 < i → sp_undo M p i = M i := fun i hi => by
    unfold sp_undo sp_back
    rw [if_neg (by omega), gl_upd_ne (by omega)]
  have hl5 : (q + 4) % 5 < 5 := Nat.mod_lt _ (by omega)
  have eG : ∀ i, 378 ≤ i → i < 2646 → sp_restC G p ((q + 4) % 5) i = G i := fun i hi hi2 => by
    unfold sp_restC
    rw [gl_upd_ne (by omega), gl_upd_ne (by omega), sp_blk_out (by omega)]
  refine ⟨n', m', t', sp_W_lo eM w', ht', fun i hi => ?_, by omega, hl5, ?_, ?_, ?_, fun j hjp => ?_⟩
  · rw [eM i hi]
    unfold sp_restC
    rw [gl_upd_ne (by omega), gl_upd_ne (by omega), sp_blk_in hi]
    exact a0 i hi
  · unfold sp_restC; rw [gl_upd_eq]
  · unfold sp_restC; rw [gl_upd_ne (by omega), gl_upd_eq]
  · unfold sp_undo sp_back; rw [if_neg (by omega), gl_upd_eq]
  · obtain ⟨a, n2, m2, t2, ht2, w2⟩ := hj j (by omega)
    have ea : ((q + 4) % 5 + 5 - (p - 1) + j) % 5 = (q + 5 - p + j) % 5 := by omega
    have hs5 : (q + 5 - p + j) % 5 < 5 := Nat.mod_lt _ (by omega)
    refine ⟨fun i hi => ?_, n2, m2, t2, ht2, sp_W_lo (fun i hi => eM2 _ (by omega)) w2⟩
    rw [ea, eG _ (by omega) (by omega)]
    show _ = sp_undo M p _
    rw [eM2 _ (by omega)]
    exact a i hi
