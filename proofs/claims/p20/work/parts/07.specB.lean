/-! ===== the changes ===== -/
theorem iK_ne {j k v w : Nat} (hv : v < 8) (hw : w < 8) (h : ¬ (j = k ∧ v = w)) : iK j v ≠ iK k w := by unfold iK; omega
theorem iC_ne {j k v w : Nat} (hv : v < 6) (hw : w < 6) (h : ¬ (j = k ∧ v = w)) : iC j v ≠ iC k w := by unfold iC; omega
theorem iCK {c v k w : Nat} (hc : c < 5) (hv : v < 6) : iC c v ≠ iK k w := by unfold iC iK; omega
theorem sp_W_K {n m t : Nat} {M M' : Nat → Int32} (h : sp_W n m t M) (k : Nat) (hk : ∀ i, (∀ w, w < 8 → i ≠ iK k w) → M' i = M i) (hc : sp_cal M' k) : sp_W n m t M' := by
  obtain ⟨h1, h2, h3, h4, h5, h6, h7⟩ := h
  refine ⟨h1, h2, ?_, ?_, ?_, fun c hcm => ?_, fun j hj => ?_⟩
  · rw [hk 2 (fun w _ => by unfold iK; omega)]; exact h3
  · rw [hk 1 (fun w _ => by unfold iK; omega)]; exact h4
  · rw [hk 0 (fun w _ => by unfold iK; omega)]; exact h5
  · have e : ∀ v, v < 6 → M' (iC c v) = M (iC c v) := fun v hv => hk _ (fun w _ => iCK (by omega) hv)
    have := h6 c hcm
    unfold sp_car at this ⊢
    rw [e 0 (by omega), e 1 (by omega), e 2 (by omega), e 3 (by omega)]
    exact this
  · by_cases hjk : j = k
    · subst hjk; exact hc
    · have e : ∀ v, v < 8 → M' (iK j v) = M (iK j v) := fun v hv => hk _ (fun w hw => iK_ne hv hw (fun q => hjk q.1))
      have := h7 j hj
      unfold sp_cal at this ⊢
      rw [e 0 (by omega), e 1 (by omega), e 2 (by omega), e 6 (by omega)]
      exact this
theorem sp_W_C {n m t : Nat} {M M' : Nat → Int32} (h : sp_W n m t M) (c : Nat) (hc5 : c < 5) (hk : ∀ i, (∀ w, w < 6 → i ≠ iC c w) → M' i = M i) (hc : sp_car M' c) : sp_W n m t M' := by
  obtain ⟨h1, h2, h3, h4, h5, h6, h7⟩ := h
  refine ⟨h1, h2, ?_, ?_, ?_, fun d hd => ?_, fun j hj => ?_⟩
  · rw [hk 2 (fun w _ => by unfold iC; omega)]; exact h3
  · rw [hk 1 (fun w _ => by unfold iC; omega)]; exact h4
  · rw [hk 0 (fun w _ => by unfold iC; omega)]; exact h5
  · by_cases hdc : d = c
    · subst hdc; exact hc
    · have e : ∀ v, v < 6 → M' (iC d v) = M (iC d v) := fun v hv => hk _ (fun w hw => iC_ne hv hw (fun q => hdc q.1))
      have := h6 d hd
      unfold sp_car at this ⊢
      rw [e 0 (by omega), e 1 (by omega), e 2 (by omega), e 3 (by omega)]
      exact this
  · have e : ∀ v, v < 8 → M' (iK j v) = M (iK j v) := fun v hv => hk _ (fun w hw => (iCK hc5 hw).symm)
    have := h7 j hj
    unfold sp_cal at this ⊢
    rw [e 0 (by omega), e 1 (by omega), e 2 (by omega), e 6 (by omega)]
    exact this
theorem sp_W_3 {n m t : Nat} {M : Nat → Int32} (h : sp_W n m t M) (x : Int32) : sp_W n m t (upd M 3 x) := by
  obtain ⟨h1, h2, h3, h4, h5, h6, h7⟩ := h
  have e : ∀ i, i ≠ 3 → upd M 3 x i = M i := fun i hi => gl_upd_ne hi
  refine ⟨h1, h2, by rw [e _ (by omega)]; exact h3, by rw [e _ (by omega)]; exact h4, by rw [e _ (by omega)]; exact h5, fun c hc => ?_, fun k hk => ?_⟩
  · have := h6 c hc
    unfold sp_car at this ⊢
    rw [e _ (by unfold iC; omega), e _ (by unfold iC; omega), e _ (by unfold iC; omega), e _ (by unfold iC; omega)]
    exact this
  · have := h7 k hk
    unfold sp_cal at this ⊢
    rw [e _ (by unfold iK; omega), e _ (by unfold iK; omega), e _ (by unfold iK; omega), e _ (by unfold iK; omega)]
    exact this
theorem sp_W_0 {n m t : Nat} {M : Nat → Int32} (h : sp_W n m t M) : sp_W n m (t + 1) (upd M 0 (M 0 + nI 1)) := by
  obtain ⟨h1, h2, h3, h4, h5, h6, h7⟩ := h
  have e : ∀ i, i ≠ 0 → upd M 0 (M 0 + nI 1) i = M i := fun i hi => gl_upd_ne hi
  refine ⟨h1, h2, by rw [e _ (by omega)]; exact h3, by rw [e _ (by omega)]; exact h4, by rw [gl_upd_eq, h5]; exact nI_1 t, fun c hc => ?_, fun k hk => ?_⟩
  · have := h6 c hc
    unfold sp_car at this ⊢
    rw [e _ (by unfold iC; omega), e _ (by unfold iC; omega), e _ (by unfold iC; omega), e _ (by unfold iC; omega)]
    exact this
  · have := h7 k hk
    unfold sp_cal at this ⊢
    rw [e _ (by unfold iK; omega), e _ (by unfold iK; omega), e _ (by unfold iK; omega), e _ (by unfold iK; omega)]
    exact this
/-- reading a caller's number in a memory where one of his numbers was changed -/
theorem rK {M : Nat → Int32} {k v w : Nat} {x : Int32} (hv : v < 8) (hw : w < 8) (h : v ≠ w) : upd M (iK k w) x (iK k v) = M (iK k v) := gl_upd_ne (iK_ne hv hw (fun q => h q.2))
theorem oK {M : Nat → Int32} {i k w : Nat} {x : Int32} (hw : w < 8) (h : ∀ w, w < 8 → i ≠ iK k w) : upd M (iK k w) x i = M i := gl_upd_ne (h w hw)
theorem oC {M : Nat → Int32} {i c w : Nat} {x : Int32} (hw : w < 6) (h : ∀ w, w < 6 → i ≠ iC c w) : upd M (iC c w) x i = M i := gl_upd_ne (h w hw)
/-- a caller is given a car -/
def sp_give (M : Nat → Int32) (k : Nat) (c : Int32) : Nat → Int32 := if c = -9 then M else upd (upd (upd M (iK k 2) (nI 1)) (iK k 3) c) (iK k 7) (M (iK k 7) + nI 1)
theorem sp_give_W {n m t : Nat} {M : Nat → Int32} (h : sp_W n m t M) {k : Nat} (hk : k < n) (h0 : M (iK k 2) ≠ nI 3) (c : Int32) : sp_W n m t (sp_give M k c) := by
  unfold sp_give
  split
  · exact h
  · refine sp_W_K h k (fun i hi => ?_) ?_
    · rw [oK (by omega) hi, oK (by omega) hi, oK (by omega) hi]
    · obtain ⟨q1, q2, q3, q4⟩ := h.2.2.2.2.2.2 k hk
      unfold sp_cal
      simp only [rK (k := k) (v := 0) (w := 7) (by omega) (by omega) (by omega), rK (k := k) (v := 0) (w := 3) (by omega) (by omega) (by omega), rK (k := k) (v := 0) (w := 2) (by omega) (by omega) (by omega),
        rK (k := k) (v := 1) (w := 7) (by omega) (by omega) (by omega), rK (k := k) (v := 1) (w := 3) (by omega) (by omega) (by omega), rK (k := k) (v := 1) (w := 2) (by omega) (by omega) (by omega),
        rK (k := k) (v := 2) (w := 7) (by omega) (by omega) (by omega), rK (k := k) (v := 2) (w := 3) (by omega) (by omega) (by omega), gl_upd_eq,
        rK (k := k) (v := 6) (w := 7) (by omega) (by omega) (by omega), rK (k := k) (v := 6) (w := 3) (by omega) (by omega) (by omega), rK (k := k) (v := 6) (w := 2) (by omega) (by omega) (by omega)]
      exact ⟨q1, q2, ⟨1, by omega, rfl⟩, fun _ => q4 h0⟩
/-- those who look are gone through -/
def sp_look (M : Nat → Int32) (t n m : Nat) : Nat → Nat → Int32
  | 0 => M
  | k + 1 => if sp_look M t n m k (iK k 2) = 0 then sp_give (sp_look M t n m k) k (sp_best (sp_look M t n m k) t (sp_look M t n m k (iK k 0)) (sp_look M t n m k (iK k 1)) n m).1 else sp_look M t n m k
theorem sp_look_W {n m t : Nat} {M : Nat → Int32} (h : sp_W n m t M) : ∀ k, k ≤ n → sp_W n m t (sp_look M t n m k) := by
  intro k
  induction k with
  | zero => intro _; exact h
  | succ k ih =>
    intro hk
    have h1 := ih (by omega)
    simp only [sp_look]
    split
    · rename_i h0
      exact sp_give_W h1 (by omega) (by rw [h0]; decide) _
    · exact h1
/-- those who ride to this floor are let out -/
def sp_outs (M : Nat → Int32) (c fl tk : Int32) : Nat → Nat → Int32
  | 0 => M
  | k + 1 => if sp_rd (sp_outs M c fl tk k) k c ∧ sp_outs M c fl tk k (iK k 1) = fl then upd (upd (sp_outs M c fl tk k) (iK k 2) (nI 3)) (iK k 6) tk else sp_outs M c fl tk k
def sp_outn (M : Nat → Int32) (c fl tk : Int32) : Nat → Nat
  | 0 => 0
  | k + 1 => if sp_rd (sp_outs M c fl tk k) k c ∧ sp_outs M c fl tk k (iK k 1) = fl then sp_outn M c fl tk k + 1 else sp_outn M c fl tk k
theorem sp_outn_le {M : Nat → Int32} {c fl tk : Int32} (k : Nat) : sp_outn M c fl tk k ≤ k := by
  induction k with
  | zero => exact Nat.le_refl _
  | succ k ih => simp only [sp_outn]; split <;> omega
theorem sp_cal3 {M : Nat → Int32} {k : Nat} (h : sp_cal M k) (tk : Int32) : sp_cal (upd (upd M (iK k 2) (nI 3)) (iK k 6) tk) k := by
  obtain ⟨q1, q2, q3, q4⟩ := h
  unfold sp_cal
  simp only [rK (k := k) (v := 0) (w := 6) (by omega) (by omega) (by omega), rK (k := k) (v := 0) (w := 2) (by omega) (by omega) (by omega), rK (k := k) (v := 1) (w := 6) (by omega) (by omega) (by omega), rK (k := k) (v := 1) (w := 2) (by omega) (by omega) (by omega), rK (k := k) (v := 2) (w := 6) (by omega) (by omega) (by omega), gl_upd_eq]
  exact ⟨q1, q2, ⟨3, by omega, rfl⟩, fun h => absurd rfl h⟩
theorem sp_outs_W {n m t : Nat} {M : Nat → Int32} (h : sp_W n m t M) {c fl tk : Int32} : ∀ k, k ≤ n → sp_W n m t (sp_outs M c fl tk k) := by
  intro k
  induction k with
  | zero => intro _; exact h
  | succ k ih =>
    intro hk
    have h1 := ih (by omega)
    simp only [sp_outs]
    split
    · refine sp_W_K h1 k (fun i hi => ?_) (sp_cal3 (h1.2.2.2.2.2.2 k (by omega)) tk)
      rw [oK (by omega) hi, oK (by omega) hi]
    · exact h1
/-- what isn't a phase or a tick of arrival stays -/
theorem sp_outs_o {M : Nat → Int32} {c fl tk : Int32} {i : Nat} (hi : ∀ j, i ≠ iK j 2 ∧ i ≠ iK j 6) : ∀ k, sp_outs M c fl tk k i = M i := by
  intro k
  induction k with
  | zero => rfl
  | succ k ih =>
    simp only [sp_outs]
    split
    · rw [gl_upd_ne (hi k).2, gl_upd_ne (hi k).1]; exact ih
    · exact ih
/-- how many of a car's are in a phase -/
def sp_ofN (M : Nat → Int32) (c is : Int32) : Nat → Nat
  | 0 => 0
  | k + 1 => if M (iK k 2) = is ∧ M (iK k 3) = c then sp_ofN M c is k + 1 else sp_ofN M c is k
theorem sp_of_N {M : Nat → Int32} {c is : Int32} (k : Nat) : sp_of M c is k = nI (sp_ofN M c is k) := by
  induction k with
  | zero => rfl
  | succ k ih =>
    simp only [sp_of, sp_ofN]
    split
    · rw [ih]; exact nI_1 _
    · exact ih
theorem sp_ofN_le {M : Nat → Int32} {c is : Int32} (k : Nat) : sp_ofN M c is k ≤ k := by
  induction k with
  | zero => exact Nat.le_refl _
  | succ k ih => simp only [sp_ofN]; split <;> omega
/-- those who wait here are taken, as long as there is a place -/
abbrev sp_tk (M : Nat → Int32) (c fl pl : Int32) (n k : Nat) : Prop := sp_wt M k c ∧ M (iK k 0) = fl ∧ ¬ pl ≤ sp_of M c (nI 2) n
def sp_tak (M : Nat → Int32) (c fl pl tk : Int32) (n : Nat) : Nat → Nat → Int32
  | 0 => M
  | k + 1 => if sp_tk (sp_tak M c fl pl tk n k) c fl pl n k then upd (upd (sp_tak M c fl pl tk n k) (iK k 2) (nI 2)) (iK k 5) tk else sp_tak M c fl pl tk n k
def sp_takn (M : Nat → Int32) (c fl pl tk : Int32) (n : Nat) : Nat → Nat
  | 0 => 0
  | k + 1 => if sp_tk (sp_tak M c fl pl tk n k) c fl pl n k then sp_takn M c fl pl tk n k + 1 else sp_takn M c fl pl tk n k
theorem sp_takn_le {M : Nat → Int32} {c fl pl tk : Int32} {n : Nat} (k : Nat) : sp_takn M c fl pl tk n k ≤ k := by
  induction k with
  | zero => exact Nat.le_refl _
  | succ k ih => simp only [sp_takn]; split <;> omega
theorem sp_tak_W {n m t : Nat} {M : Nat → Int32} (h : sp_W n m t M) {c fl pl tk : Int32} : ∀ k, k ≤ n → sp_W n m t (sp_tak M c fl pl tk n k) := by
  intro k
  induction k with
  | zero => intro _; exact h
  | succ k ih =>
    intro hk
    have h1 := ih (by omega)
    simp only [sp_tak]
    split
    · rename_i hc
      refine sp_W_K h1 k (fun i hi => ?_) ?_
      · rw [oK (by omega) hi, oK (by omega) hi]
      · obtain ⟨q1, q2, q3, q4⟩ := h1.2.2.2.2.2.2 k (by omega)
        unfold sp_cal
        simp only [rK (k := k) (v := 0) (w := 5) (by omega) (by omega) (by omega), rK (k := k) (v := 0) (w := 2) (by omega) (by omega) (by omega), rK (k := k) (v := 1) (w := 5) (by omega) (by omega) (by omega), rK (k := k) (v := 1) (w := 2) (by omega) (by omega) (by omega), rK (k := k) (v := 2) (w := 5) (by omega) (by omega) (by omega), gl_upd_eq, rK (k := k) (v := 6) (w := 5) (by omega) (by omega) (by omega), rK (k := k) (v := 6) (w := 2) (by omega) (by omega) (by omega)]
        exact ⟨q1, q2, ⟨2, by omega, rfl⟩, fun _ => q4 (by rw [hc.1.1]; decide)⟩
    · exact h1
theorem sp_tak_o {M : Nat → Int32} {c fl pl tk : Int32} {n i : Nat} (hi : ∀ j, i ≠ iK j 2 ∧ i ≠ iK j 5) : ∀ k, sp_tak M c fl pl tk n k i = M i := by
  intro k
  induction k with
  | zero => rfl
  | succ k ih =>
    simp only [sp_tak]
    split
    · rw [gl_upd_ne (hi k).2, gl_upd_ne (hi k).1]; exact ih
    · exact ih
/-- the number grows by one with each that is taken -/
theorem sp_ofN_up {M M' : Nat → Int32} {c is : Int32} {k : Nat} (h0 : ¬ (M (iK k 2) = is ∧ M (iK k 3) = c)) (h1 : M' (iK k 2) = is ∧ M' (iK k 3) = c) (ho : ∀ j, j ≠ k → M' (iK j 2) = M (iK j 2) ∧ M' (iK j 3) = M (iK j 3)) : ∀ n, sp_ofN M' c is n = sp_ofN M c is n + (if k < n then 1 else 0) := by
  intro n
  induction n with
  | zero => simp [sp_ofN]
  | succ n ih =>
    simp only [sp_ofN]
    by_cases hkn : n = k
    · subst hkn
      rw [if_pos h1, if_neg h0, ih]
      simp
    · rw [(ho n hkn).1, (ho n hkn).2, ih]
      have e : (k < n + 1) ↔ (k < n) := by omega
      simp only [e]
      split <;> omega
theorem sp_tak_of {M : Nat → Int32} {c fl pl tk : Int32} {n : Nat} : ∀ k, k ≤ n → sp_ofN (sp_tak M c fl pl tk n k) c (nI 2) n = sp_ofN M c (nI 2) n + sp_takn M c fl pl tk n k := by
  intro k
  induction k with
  | zero => intro _; rfl
  | succ k ih =>
    intro hk
    have h1 := ih (by omega)
    simp only [sp_tak, sp_takn]
    split
    · rename_i hc
      rw [sp_ofN_up (M := sp_tak M c fl pl tk n k) (k := k) (n := n), h1, if_pos (by omega)]
      · omega
      · rintro ⟨q1, -⟩
        have := hc.1.1.symm.trans q1
        exact absurd this (by decide)
      · exact ⟨by rw [rK (by omega) (by omega) (by omega), gl_upd_eq], by rw [rK (by omega) (by omega) (by omega), rK (by omega) (by omega) (by omega)]; exact hc.1.2⟩
      · intro j hj
        exact ⟨by rw [gl_upd_ne (iK_ne (by omega) (by omega) (fun q => hj q.1)), gl_upd_ne (iK_ne (by omega) (by omega) (fun q => hj q.1))], by rw [gl_upd_ne (iK_ne (by omega) (by omega) (fun q => hj q.1)), gl_upd_ne (iK_ne (by omega) (by omega) (fun q => hj q.1))]⟩
    · exact h1
/-- no place: nobody more is taken -/
theorem sp_tak_full {M : Nat → Int32} {c fl pl tk : Int32} {n k : Nat} (h : pl ≤ sp_of (sp_tak M c fl pl tk n k) c (nI 2) n) : ∀ d, sp_tak M c fl pl tk n (k + d) = sp_tak M c fl pl tk n k ∧ sp_takn M c fl pl tk n (k + d) = sp_takn M c fl pl tk n k := by
  intro d
  induction d with
  | zero => exact ⟨rfl, rfl⟩
  | succ d ih =>
    rw [show k + (d + 1) = (k + d) + 1 by omega]
    simp only [sp_tak, sp_takn]
    rw [ih.1, ih.2]
    rw [if_neg (by rintro ⟨-, -, q⟩; exact q h), if_neg (by rintro ⟨-, -, q⟩; exact q h)]
    exact ⟨rfl, rfl⟩
