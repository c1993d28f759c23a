/-! ===== the model's own forms of the same ===== -/
theorem gl_add0 (x : Int32) : x + nI 0 = x := by rw [nI_0', Int32.add_zero]
theorem gl_or0 (x : Int32) : x ||| nI 0 = x := by rw [nI_0', Int32.or_zero]
abbrev sp_inr (v a b : Int32) : Prop := ¬ v < a ∧ ¬ b < v
abbrev sp_isf (f : Int32) : Prop := ¬ f < 0 ∧ ¬ nI 16 ≤ f
theorem sp_isf_in (f : Int32) : sp_inr f (nI 0) (nI 15) ↔ sp_isf f := by
  have e0 : (nI 0).toInt = 0 := by decide
  have e15 : (nI 15).toInt = 15 := by decide
  have e16 : (nI 16).toInt = 16 := by decide
  have z : (0 : Int32).toInt = 0 := by decide
  simp only [sp_inr, sp_isf, Int32.lt_iff_toInt_lt, Int32.le_iff_toInt_le, e0, e15, e16, z]
  omega
theorem sp_isf_fl {f : Int32} (h : sp_isf f) : sp_fl f := by
  obtain ⟨j, hj, e⟩ := nI_of2 (M := nI 15) (n := 15) (by decide) h.1 (by
    have e15 : (nI 15).toInt = 15 := by decide
    have e16 : (nI 16).toInt = 16 := by decide
    have := h.2
    simp only [Int32.le_iff_toInt_le, e15, e16] at this ⊢
    omega)
  exact ⟨j, by omega, e⟩
abbrev sp_way (f g : Int32) : Prop := sp_isf f ∧ sp_isf g ∧ ¬ f = g
theorem sp_ph0 : ∀ i, i ≤ 3 → ((¬ nI i < nI 1 ∧ ¬ nI 2 < nI i) ↔ (nI i = nI 1 ∨ nI i = nI 2)) := by decide +kernel
theorem sp_ph {x : Int32} (h : ∃ i, i ≤ 3 ∧ x = nI i) : sp_inr x (nI 1) (nI 2) ↔ (x = nI 1 ∨ x = nI 2) := by
  obtain ⟨i, hi, rfl⟩ := h
  exact sp_ph0 i hi
theorem sp_far_N0 : ∀ a, a < 16 → ∀ b, b < 16 → ∃ d, d ≤ 15 ∧ sp_far (nI a) (nI b) = nI d := by
  intro a ha b hb
  unfold sp_far
  by_cases h : a < b
  · rw [if_pos (nI_lt h (by omega)), pk_sub (by omega)]
    exact ⟨b - a, by omega, rfl⟩
  · rw [if_neg (nI_nlt (by omega) (by omega)), pk_sub (by omega)]
    exact ⟨a - b, by omega, rfl⟩
theorem sp_far_N {x y : Int32} (hx : sp_fl x) (hy : sp_fl y) : ∃ d, d ≤ 15 ∧ sp_far x y = nI d := by
  obtain ⟨a, ha, rfl⟩ := hx
  obtain ⟨b, hb, rfl⟩ := hy
  exact sp_far_N0 a ha b hb
theorem sp_far_lt {x y f : Int32} (hx : sp_fl x) (hy : sp_fl y) (hf : sp_fl f) : (sp_far x f - sp_far y f < 0 ↔ sp_far x f < sp_far y f) ∧ (sp_far x f - sp_far y f = 0 ↔ sp_far x f = sp_far y f) := by
  obtain ⟨d, hd, e1⟩ := sp_far_N hx hf
  obtain ⟨e, he, e2⟩ := sp_far_N hy hf
  rw [e1, e2]
  have z : (0 : Int32).toInt = 0 := by decide
  refine ⟨?_, ?_⟩
  · rw [Int32.lt_iff_toInt_lt, Int32.lt_iff_toInt_lt, pk_sub_toInt (by omega) (by omega), nI_toInt (by omega), nI_toInt (by omega), z]
    omega
  · rw [← Int32.toInt_inj, ← Int32.toInt_inj, pk_sub_toInt (by omega) (by omega), nI_toInt (by omega), nI_toInt (by omega), z]
    omega
theorem n12 : ¬ nI 1 = nI 2 := by decide
theorem n21 : ¬ nI 2 = nI 1 := by decide
