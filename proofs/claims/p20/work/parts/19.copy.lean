/-! ===== one house copied from another: cell by cell ===== -/
def sp_rk (rk : Nat → Nat) (M : Nat → Int32) (r : Nat) : Nat → Int32 := fun i => if rk i < r then M (378 + i) else M i
def rkC (i : Nat) : Nat := if i = 1 then 0 else if i = 3 then 1 else if 28 ≤ i ∧ i < 58 then 2 + (i - 28) % 6 else 100
def rkK (i : Nat) : Nat := if i = 2 then 0 else if 58 ≤ i ∧ i < 378 then 1 + (i - 58) % 8 else 100
def rkH (i : Nat) : Nat := if i = 0 then 0 else if 4 ≤ i ∧ i < 28 then 1 else if i = 1 ∨ i = 3 ∨ (28 ≤ i ∧ i < 58) then 2 else if i = 2 ∨ (58 ≤ i ∧ i < 378) then 3 else 100
theorem sp_rk_0 {rk : Nat → Nat} {M : Nat → Int32} : sp_rk rk M 0 = M := by
  funext i
  unfold sp_rk
  rw [if_neg (by omega)]
theorem sp_rk_f {rk : Nat → Nat} {M : Nat → Int32} {r x : Nat} (h : ∀ i, rk i = r ↔ i = x) (hx : ¬ rk (378 + x) < r) : upd (sp_rk rk M r) x (sp_rk rk M r (378 + x)) = sp_rk rk M (r + 1) := by
  funext i
  unfold upd sp_rk
  have h1 := h i
  by_cases e : i = x
  · subst e
    have := h1.mpr rfl
    rw [if_pos rfl, if_neg hx, if_pos (by omega)]
  · rw [if_neg e]
    have : ¬ rk i = r := fun q => e (h1.mp q)
    by_cases q : rk i < r
    · rw [if_pos q, if_pos (by omega)]
    · rw [if_neg q, if_neg (by omega)]
theorem sp_rk_1 {rk : Nat → Nat} {M : Nat → Int32} {r a b : Nat} (hb : rk b = r) (ha : ¬ rk a < r) (e : a = 378 + b) : sp_rk rk M (r + 1) b = sp_rk rk M r a := by
  unfold sp_rk
  rw [if_pos (by omega), if_neg ha, e]
theorem L2_ow : ∀ (j : Nat) (c : gl_Ce) (k i : Nat), L2[j]? = some c → gl_at c k = some i → (if i < 378 then owH i else ((owH (i - 378)).1 + 18, (owH (i - 378)).2)) = (j, k) := gl_ow_of (ow := fun i => if i < 378 then owH i else ((owH (i - 378)).1 + 18, (owH (i - 378)).2)) (by decide +kernel)
theorem sp_rk_2 {rk : Nat → Nat} {M : Nat → Int32} {r j1 : Nat} (h : ∀ i, rk i = r → i < 378 ∧ (owH i).1 = j1) : ∀ (j : Nat) (c : gl_Ce) (k i : Nat), L2[j]? = some c → j ≠ j1 → gl_at c k = some i → sp_rk rk M (r + 1) i = sp_rk rk M r i := by
  intro j c k i hj hne hk
  have h1 := L2_ow j c k i hj hk
  have h2 : ¬ rk i = r := by
    intro q
    obtain ⟨a, b⟩ := h i q
    rw [if_pos a] at h1
    exact hne (by rw [← b, h1])
  unfold sp_rk
  by_cases q : rk i < r
  · rw [if_pos q, if_pos (by omega)]
  · rw [if_neg q, if_neg (by omega)]
theorem rkC_a {w : Nat} (hw : w < 6) : ∀ i, rkC i = w + 2 → i < 378 ∧ (owH i).1 = 3 + w := by
  intro i h
  unfold rkC at h
  split at h
  · omega
  · split at h
    · omega
    · split at h
      · unfold owH
        rw [if_neg (by omega), if_neg (by omega), if_neg (by omega), if_neg (by omega), if_neg (by omega), if_pos (by omega)]
        refine ⟨by omega, ?_⟩
        dsimp only
        omega
      · omega
theorem rkC_b {k w : Nat} (hk : k < 5) (hw : w < 6) : rkC (iC k w) = w + 2 := by
  unfold rkC iC
  rw [if_neg (by omega), if_neg (by omega), if_pos (by omega)]
  omega
theorem rkC_x (r i : Nat) (hr : r < 100) : ¬ rkC (378 + i) < r := by
  unfold rkC
  rw [if_neg (by omega), if_neg (by omega), if_neg (by omega)]
  omega
theorem rkK_a {w : Nat} (hw : w < 8) : ∀ i, rkK i = w + 1 → i < 378 ∧ (owH i).1 = 10 + w := by
  intro i h
  unfold rkK at h
  split at h
  · omega
  · split at h
    · unfold owH
      rw [if_neg (by omega), if_neg (by omega), if_neg (by omega), if_neg (by omega), if_neg (by omega), if_neg (by omega)]
      refine ⟨by omega, ?_⟩
      dsimp only
      omega
    · omega
theorem rkK_b {k w : Nat} (hk : k < 40) (hw : w < 8) : rkK (iK k w) = w + 1 := by
  unfold rkK iK
  rw [if_neg (by omega), if_pos (by omega)]
  omega
theorem rkK_x (r i : Nat) (hr : r < 100) : ¬ rkK (378 + i) < r := by
  unfold rkK
  rw [if_neg (by omega), if_neg (by omega)]
  omega
theorem rkH_x (r i : Nat) (hr : r < 100) : ¬ rkH (378 + i) < r := by
  unfold rkH
  rw [if_neg (by omega), if_neg (by omega), if_neg (by omega), if_neg (by omega)]
  omega
theorem rkC_0 : ∀ i, rkC i = 0 ↔ i = 1 := by
  intro i
  unfold rkC
  split
  · omega
  · split
    · omega
    · split <;> omega
theorem rkC_1 : ∀ i, rkC i = 1 ↔ i = 3 := by
  intro i
  unfold rkC
  split
  · omega
  · split
    · omega
    · split <;> omega
theorem rkK_0 : ∀ i, rkK i = 0 ↔ i = 2 := by
  intro i
  unfold rkK
  split
  · omega
  · split <;> omega
theorem rkH_0 : ∀ i, rkH i = 0 ↔ i = 0 := by
  intro i
  unfold rkH
  split
  · omega
  · split
    · omega
    · split
      · omega
      · split <;> omega
theorem rkH_a : ∀ i, rkH i = 1 → i < 378 ∧ (owH i).1 = 1 := by
  intro i h
  unfold rkH at h
  split at h
  · omega
  · split at h
    · unfold owH
      rw [if_neg (by omega), if_neg (by omega), if_neg (by omega), if_neg (by omega), if_pos (by omega)]
      exact ⟨by omega, rfl⟩
    · split at h
      · omega
      · split at h <;> omega
theorem rkH_b {h : Nat} (hh : h < 24) : rkH (4 + h) = 1 := by
  unfold rkH
  rw [if_neg (by omega), if_pos (by omega)]
theorem rkC_8 (i : Nat) : rkC i < 8 ↔ (i = 1 ∨ i = 3 ∨ (28 ≤ i ∧ i < 58)) := by
  unfold rkC
  split
  · omega
  · split
    · omega
    · split <;> omega
theorem rkH_2' (i : Nat) : rkH i < 2 ↔ (i = 0 ∨ (4 ≤ i ∧ i < 28)) := by
  unfold rkH
  split
  · omega
  · split
    · omega
    · split
      · omega
      · split <;> omega
theorem rkH_3' (i : Nat) : rkH i < 3 ↔ (i < 58 ∧ i ≠ 2) := by
  unfold rkH
  split
  · omega
  · split
    · omega
    · split
      · omega
      · split <;> omega
theorem rkH_3 {M : Nat → Int32} : sp_rk rkC (sp_rk rkH M 2) 8 = sp_rk rkH M 3 := by
  funext i
  have hx := rkH_x 2 i (by omega)
  have h8 := rkC_8 i
  have h2 := rkH_2' i
  have h3 := rkH_3' i
  unfold sp_rk
  rw [if_neg hx]
  by_cases q3 : rkH i < 3
  · rw [if_pos q3]
    by_cases q8 : rkC i < 8
    · rw [if_pos q8]
    · rw [if_neg q8, if_pos (by omega)]
  · rw [if_neg q3, if_neg (by omega), if_neg (by omega)]
theorem rkH_4 {M : Nat → Int32} : sp_rk rkK (sp_rk rkH M 3) 9 = sp_cpy M := by
  funext i
  have hx := rkH_x 3 i (by omega)
  unfold sp_rk sp_cpy
  rw [if_neg hx]
  by_cases h : i < 378
  · rw [if_pos h]
    by_cases h2 : rkK i < 9
    · rw [if_pos h2]
    · rw [if_neg h2, if_pos]
      unfold rkK at h2
      unfold rkH
      split at h2
      · omega
      · split at h2
        · omega
        · split
          · omega
          · split
            · omega
            · split
              · omega
              · omega
  · have e : i = 378 + (i - 378) := by omega
    rw [if_neg h, if_neg (by rw [e]; exact rkK_x 9 _ (by omega)), if_neg (by rw [e]; exact rkH_x 3 _ (by omega))]
