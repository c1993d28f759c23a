theorem sp_okA_in (x y : Int32) : (¬ x < 0 ∧ ¬ nI 24 ≤ x ∧ ¬ y < nI 1 ∧ y ≤ nI 5) ↔ sp_okA x y := by
  have e0 : (nI 0).toInt = 0 := by decide
  have e1 : (nI 1).toInt = 1 := by decide
  have e5 : (nI 5).toInt = 5 := by decide
  have e23 : (nI 23).toInt = 23 := by decide
  have e24 : (nI 24).toInt = 24 := by decide
  have z : (0 : Int32).toInt = 0 := by decide
  simp only [sp_inr, sp_okA, Int32.lt_iff_toInt_lt, Int32.le_iff_toInt_le, e0, e1, e5, e23, e24, z]
  omega
theorem sp_in0 (y : Int32) (b : Nat) : (¬ y < 0 ∧ y ≤ nI b) ↔ sp_inr y (nI 0) (nI b) := by
  rw [sp_inr, nI_0', Int32.not_lt (a := nI b)]
theorem sp_in1 (y a b : Int32) : (¬ y < a ∧ y ≤ b) ↔ sp_inr y a b := by
  rw [sp_inr, Int32.not_lt (a := b)]
theorem sp_blk_congr {C S T : Nat → Int32} {h : Nat} (e : ∀ i, i < 378 → S i = T i) : sp_blk C h S = sp_blk C h T := by
  funext i
  unfold sp_blk
  split
  · exact e _ (by omega)
  · rfl
theorem sp_blk_self {C S : Nat → Int32} {h : Nat} (e : sp_ag C h S) : C = sp_blk C h S := by
  funext i
  unfold sp_blk
  split
  · have := e (i - 378 * h) (by omega)
    rw [show 378 * h + (i - 378 * h) = i by omega] at this
    exact this
  · rfl
theorem sp_blk_0 {C S T : Nat → Int32} (e : sp_ag C 0 S) : sp_ag (sp_blk C 1 T) 0 S := fun i hi => by
  rw [sp_blk_out (by omega)]
  exact e i hi
/-- the class's memory while it looks for the worst car -/
def sp_wG (C S : Nat → Int32) (t n m : Nat) : Nat → Nat → Int32
  | 0 => C
  | c + 1 => if S (iC c 4) = nI 2 then sp_wG C S t n m c else sp_blk (sp_wG C S t n m c) 1 (sp_run (sp_fail S c t n) t n m (sp_alJ (sp_fail S c t n) t n m))
theorem sp_wG_0 {C S : Nat → Int32} {t n m : Nat} (e : sp_ag C 0 S) : ∀ c, sp_ag (sp_wG C S t n m c) 0 S := by
  intro c
  induction c with
  | zero => exact e
  | succ c ih =>
    simp only [sp_wG]
    split
    · exact ih
    · exact sp_blk_0 ih
theorem sp_tab_inr {y : Int32} {N : Nat} (hN : N < 1000) (h : y.toInt < 0 ∨ (N : Int) < y.toInt) : ¬ sp_inr y (nI 0) (nI N) := by
  intro q
  obtain ⟨c, -, hc, rfl⟩ := sp_inr_n (by omega) (by omega) q
  rw [nI_toInt (by omega)] at h
  omega
theorem sp_inr_lit {i N : Nat} (hN : N < 1000) (h : i ≤ N) : sp_inr (nI i) (nI 0) (nI N) := ⟨nI_nlt (by omega) (by omega), nI_nlt (by omega) (by omega)⟩
