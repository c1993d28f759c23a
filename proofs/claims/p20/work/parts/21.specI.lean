/-! ===== the history ===== -/
def sp_keepC (C : Nat → Int32) (p q : Nat) : Nat → Int32 := upd (upd (sp_blk C (2 + q) (fun i => C (378 * 0 + i))) 2647 (nI ((q + 1) % 5))) 2646 (nI (if p = 5 then 5 else p + 1))
def sp_restC (C : Nat → Int32) (p l : Nat) : Nat → Int32 := upd (upd (sp_blk C 0 (fun i => C (378 * (2 + l) + i))) 2647 (nI l)) 2646 (nI (p - 1))
theorem sp_keepC_0 {C S : Nat → Int32} {p q : Nat} (hq : q < 5) (h : sp_ag C 0 S) : sp_ag (sp_keepC C p q) 0 S := by
  intro i hi
  unfold sp_keepC
  rw [gl_upd_ne (by omega), gl_upd_ne (by omega), sp_blk_out (by omega)]
  exact h i hi
theorem sp_ag_0 {C S : Nat → Int32} (h : sp_ag C 0 S) : ∀ i, i < 378 → C i = S i := fun i hi => by
  have := h i hi
  rwa [Nat.mul_zero, Nat.zero_add] at this
theorem sp_blk_upd {C S : Nat → Int32} (h : sp_ag C 0 S) {x : Nat} (hx : x < 378) (v : Int32) : upd C x v = sp_blk C 0 (upd S x v) := by
  have h0 := sp_ag_0 h
  funext i
  unfold sp_blk
  rw [Nat.mul_zero, Nat.zero_add, Nat.sub_zero]
  by_cases hi : i < 378
  · rw [if_pos ⟨by omega, hi⟩]
    unfold upd
    rw [h0 i hi]
  · rw [if_neg (by omega), gl_upd_ne (by omega)]
theorem sp_blk_ag {C S : Nat → Int32} {h : Nat} : sp_ag (sp_blk C h S) h S := fun i hi => sp_blk_in hi
theorem sp_blk_blk {C S T : Nat → Int32} {h : Nat} : sp_blk (sp_blk C h S) h T = sp_blk C h T := by
  funext i
  unfold sp_blk
  split
  · rfl
  · rfl
/-- how many are in a phase, as a number -/
theorem sp_in_N {M : Nat → Int32} {is : Int32} (k : Nat) : ∃ j, j ≤ k ∧ sp_in M is k = nI j := by
  induction k with
  | zero => exact ⟨0, by omega, rfl⟩
  | succ k ih =>
    obtain ⟨j, hj, e⟩ := ih
    simp only [sp_in]
    split
    · exact ⟨j + 1, by omega, by rw [e]; exact nI_1 j⟩
    · exact ⟨j, by omega, e⟩
theorem sp_in_lt {M : Nat → Int32} {is : Int32} {n : Nat} (hn : n ≤ 40) : sp_in M is n = nI n ↔ ¬ sp_in M is n < nI n := by
  obtain ⟨j, hj, e⟩ := sp_in_N (M := M) (is := is) n
  rw [e, nI_eq (by omega) (by omega), nI_ltI (by omega) (by omega)]
  omega
