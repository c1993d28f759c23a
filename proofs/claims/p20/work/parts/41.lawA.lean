/-! ===== what the law's small methods answer ===== -/
theorem lg_far1 {x y : Int32} (h : x ≤ y) : y - x = sp_far x y := by
  unfold sp_far
  by_cases q : x < y
  · rw [if_pos q]
  · rw [if_neg q]
    have : x = y := Int32.le_antisymm h (Int32.not_lt.mp q)
    rw [this]
theorem lg_far2 {x y : Int32} (h : ¬ x ≤ y) : x - y = sp_far x y := by
  unfold sp_far
  rw [if_neg (fun q => h (Int32.le_of_lt q))]
theorem lg_and (x : Int32) : ∃ j, j < 2 ^ 31 ∧ x &&& 2147483647 = nI j := by
  refine ⟨(x &&& 2147483647).toBitVec.toNat, ?_, ?_⟩
  · rw [Int32.toBitVec_and, BitVec.toNat_and]
    exact Nat.and_lt_two_pow _ (by decide)
  · apply Int32.toBitVec_inj.1
    show _ = BitVec.ofNat 32 _
    simp
def lg_low (x : Int32) (d : Nat) : Nat := cN (x &&& 2147483647) % d
theorem lg_low_ok {x : Int32} {d : Nat} (hd0 : 0 < d) (hd : d < 2 ^ 31) : (x &&& 2147483647) - (x &&& 2147483647) / nI d * nI d = nI (lg_low x d) := by
  obtain ⟨j, hj, e⟩ := lg_and x
  unfold lg_low
  rw [e, pk_rem hj hd0 hd, show cN (nI j) = j from nI_clamp hj]
theorem lg_set_wt {S : Nat → Int32} {k : Nat} {c more : Int32} (h : sp_wt S k c) : (sp_stops S c k ||| more) ||| nI 1 <<< (S (iK k 1) &&& 31) ||| nI 1 <<< (S (iK k 0) &&& 31) = sp_stops S c (k + 1) ||| more := by
  simp only [sp_stops]
  rw [if_pos h]
  ac_rfl
theorem lg_set_rd {S : Nat → Int32} {k : Nat} {c more : Int32} (h : sp_rd S k c) : (sp_stops S c k ||| more) ||| nI 1 <<< (S (iK k 1) &&& 31) ||| nI 0 = sp_stops S c (k + 1) ||| more := by
  simp only [sp_stops]
  rw [if_neg (fun z => n12 (z.1.symm.trans h.1)), if_pos h, gl_or0]
  ac_rfl
theorem lg_set_no {S : Nat → Int32} {k : Nat} {c more : Int32} (h1 : ¬ sp_wt S k c) (h2 : ¬ sp_rd S k c) : (sp_stops S c k ||| more) ||| nI 0 ||| nI 0 = sp_stops S c (k + 1) ||| more := by
  simp only [sp_stops]
  rw [if_neg h1, if_neg h2, gl_or0, gl_or0]
