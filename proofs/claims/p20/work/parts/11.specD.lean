theorem sp_op0 : ∀ i, i ≤ 3 → (¬ nI 1 < nI i ↔ (nI i = 0 ∨ nI i = nI 1)) := by decide +kernel
theorem sp_op {x : Int32} (h : ∃ i, i ≤ 3 ∧ x = nI i) : ¬ nI 1 < x ↔ (x = 0 ∨ x = nI 1) := by
  obtain ⟨i, hi, rfl⟩ := h
  exact sp_op0 i hi
theorem sp_rt0 : ∀ i, i ≤ 3 → (¬ nI i < nI 2 ↔ (nI i = nI 2 ∨ nI i = nI 3)) := by decide +kernel
theorem sp_rt {x : Int32} (h : ∃ i, i ≤ 3 ∧ x = nI i) : ¬ x < nI 2 ↔ (x = nI 2 ∨ x = nI 3) := by
  obtain ⟨i, hi, rfl⟩ := h
  exact sp_rt0 i hi
theorem sp_none_le {M : Nat → Int32} {k : Nat} : ∀ d j, sp_none M k (j + d) = true → sp_none M k j = true := by
  intro d
  induction d with
  | zero => intro j h; exact h
  | succ d ih =>
    intro j h
    rw [show j + (d + 1) = (j + d) + 1 by omega] at h
    simp only [sp_none, Bool.and_eq_true] at h
    exact ih j h.1
theorem sp_none_le' {M : Nat → Int32} {k j n : Nat} (hj : j ≤ n) (h : sp_none M k n = true) : sp_none M k j = true := sp_none_le (n - j) j (by rw [show j + (n - j) = n by omega]; exact h)
/-- a failing car's state, written before or behind -/
theorem upd_comm {M : Nat → Int32} {i j : Nat} {x y : Int32} (h : i ≠ j) : upd (upd M i x) j y = upd (upd M j y) i x := by
  funext q
  unfold upd
  by_cases h1 : q = i
  · subst h1
    rw [if_neg h, if_pos rfl, if_pos rfl]
  · rw [if_neg h1, if_neg h1]
theorem sp_lose_st {M : Nat → Int32} {cc : Nat} (hcc : cc < 5) {x c fl tk : Int32} : ∀ k, sp_lose (upd M (iC cc 4) x) c fl tk k = upd (sp_lose M c fl tk k) (iC cc 4) x := by
  intro k
  induction k with
  | zero => rfl
  | succ k ih =>
    have e : ∀ w, upd (sp_lose M c fl tk k) (iC cc 4) x (iK k w) = sp_lose M c fl tk k (iK k w) := fun w => gl_upd_ne (iCK hcc (by omega)).symm
    have n : ∀ w, iC cc 4 ≠ iK k w := fun w => iCK hcc (by omega)
    simp only [sp_lose, ih, sp_rd, sp_wt, e]
    split
    · split
      · rw [upd_comm (n 0), upd_comm (n 2), upd_comm (n 6)]
      · rw [upd_comm (n 0), upd_comm (n 2), upd_comm (n 3)]
    · split
      · rw [upd_comm (n 2), upd_comm (n 3)]
      · rfl
theorem upd_same {M : Nat → Int32} {i : Nat} {x : Int32} (h : M i = x) : upd M i x = M := by
  funext q
  unfold upd
  by_cases e : q = i
  · rw [if_pos e, e, h]
  · rw [if_neg e]
theorem sp_lose_o {M : Nat → Int32} {c fl tk : Int32} {i : Nat} (hi : ∀ j w, w < 8 → i ≠ iK j w) : ∀ k, sp_lose M c fl tk k i = M i := by
  intro k
  induction k with
  | zero => rfl
  | succ k ih =>
    simp only [sp_lose]
    split
    · split
      · rw [gl_upd_ne (hi k 6 (by omega)), gl_upd_ne (hi k 2 (by omega)), gl_upd_ne (hi k 0 (by omega))]; exact ih
      · rw [gl_upd_ne (hi k 3 (by omega)), gl_upd_ne (hi k 2 (by omega)), gl_upd_ne (hi k 0 (by omega))]; exact ih
    · split
      · rw [gl_upd_ne (hi k 3 (by omega)), gl_upd_ne (hi k 2 (by omega))]; exact ih
      · exact ih
theorem fl_there {T : Nat → Int32} {k : Nat} {fl tk c : Int32} (hb : T (iK k 3) = c) : upd (upd (upd (upd T (iK k 0) fl) (iK k 6) tk) (iK k 3) c) (iK k 2) (nI 3) = upd (upd (upd T (iK k 0) fl) (iK k 2) (nI 3)) (iK k 6) tk := by
  have n : ∀ {v w}, v < 8 → w < 8 → v ≠ w → iK k v ≠ iK k w := fun hv hw h => iK_ne hv hw (fun q => h q.2)
  rw [upd_same (M := upd (upd T (iK k 0) fl) (iK k 6) tk) (i := iK k 3)]
  · rw [upd_comm (n (by omega) (by omega) (by omega))]
  · rw [gl_upd_ne (n (by omega) (by omega) (by omega)), gl_upd_ne (n (by omega) (by omega) (by omega))]; exact hb
theorem fl_rides {T : Nat → Int32} {k : Nat} {fl : Int32} (hc : T (iK k 6) = -9) : upd (upd (upd (upd T (iK k 0) fl) (iK k 6) (-9)) (iK k 3) (-9)) (iK k 2) (nI 0) = upd (upd (upd T (iK k 0) fl) (iK k 2) (nI 0)) (iK k 3) (-9) := by
  have n : ∀ {v w}, v < 8 → w < 8 → v ≠ w → iK k v ≠ iK k w := fun hv hw h => iK_ne hv hw (fun q => h q.2)
  rw [upd_same (M := upd T (iK k 0) fl) (i := iK k 6)]
  · rw [upd_comm (n (by omega) (by omega) (by omega))]
  · rw [gl_upd_ne (n (by omega) (by omega) (by omega))]; exact hc
theorem fl_waits {T : Nat → Int32} {k : Nat} (hc : T (iK k 6) = -9) : upd (upd (upd (upd T (iK k 0) (T (iK k 0))) (iK k 6) (-9)) (iK k 3) (-9)) (iK k 2) (nI 0) = upd (upd T (iK k 2) (nI 0)) (iK k 3) (-9) := by
  have n : ∀ {v w}, v < 8 → w < 8 → v ≠ w → iK k v ≠ iK k w := fun hv hw h => iK_ne hv hw (fun q => h q.2)
  rw [upd_same (M := T) (i := iK k 0) rfl, upd_same (M := T) (i := iK k 6) hc]
  rw [upd_comm (n (by omega) (by omega) (by omega))]
/-- the model's row of states -/
def sp_shift (M : Nat → Int32) (k : Nat) : Nat → Int32 := fun i => if 1200 ≤ i ∧ i < 1200 + k then M (i + 378) else M i
def sp_keep (M : Nat → Int32) (b k : Nat) : Nat → Int32 := fun i => if b ≤ i ∧ i < b + k then M (i - b) else M i
def sp_back (M : Nat → Int32) (b k : Nat) : Nat → Int32 := fun i => if i < k then M (b + i) else M i
def sp_acts (M : Nat → Int32) (p : Nat) : Nat → Int32 := if p = 5 then upd (sp_keep (upd (sp_shift M 1512) 378 (nI 4)) 2712 378) 378 (nI 5) else upd (sp_keep M (1200 + 378 * p) 378) 378 (nI (p + 1))
def sp_undo (M : Nat → Int32) (p : Nat) : Nat → Int32 := sp_back (upd M 378 (nI (p - 1))) (1200 + 378 * (p - 1)) 378
theorem sp_shift_1 {M : Nat → Int32} {k : Nat} (hk : k < 1512) : upd (sp_shift M k) (1200 + k) (sp_shift M k (1200 + (k + 378))) = sp_shift M (k + 1) := by
  funext i
  unfold upd sp_shift
  by_cases h : i = 1200 + k
  · rw [if_pos h, if_neg (by omega), if_pos (by omega), h, Nat.add_assoc]
  · rw [if_neg h]
    by_cases h1 : 1200 ≤ i ∧ i < 1200 + k
    · rw [if_pos h1, if_pos (by omega)]
    · rw [if_neg h1, if_neg (by omega)]
theorem sp_keep_1 {M : Nat → Int32} {b k : Nat} (hb : 378 ≤ b) (hk : k < 378) : upd (sp_keep M b k) (b + k) (sp_keep M b k k) = sp_keep M b (k + 1) := by
  funext i
  unfold upd sp_keep
  by_cases h : i = b + k
  · rw [if_pos h, if_neg (by omega), if_pos (by omega), h, Nat.add_sub_cancel_left]
  · rw [if_neg h]
    by_cases h1 : b ≤ i ∧ i < b + k
    · rw [if_pos h1, if_pos (by omega)]
    · rw [if_neg h1, if_neg (by omega)]
theorem sp_back_1 {M : Nat → Int32} {b k : Nat} (hb : 378 ≤ b) (hk : k < 378) : upd (sp_back M b k) k (sp_back M b k (b + k)) = sp_back M b (k + 1) := by
  funext i
  unfold upd sp_back
  by_cases h : i = k
  · rw [if_pos h, if_neg (by omega), if_pos (by omega), h]
  · rw [if_neg h]
    by_cases h1 : i < k
    · rw [if_pos h1, if_pos (by omega)]
    · rw [if_neg h1, if_neg (by omega)]
theorem sp_shift_0 {M : Nat → Int32} : sp_shift M 0 = M := by funext i; unfold sp_shift; rw [if_neg (by omega)]
theorem sp_keep_0 {M : Nat → Int32} {b : Nat} : sp_keep M b 0 = M := by funext i; unfold sp_keep; rw [if_neg (by omega)]
theorem sp_back_0 {M : Nat → Int32} {b : Nat} : sp_back M b 0 = M := by funext i; unfold sp_back; rw [if_neg (by omega)]
/-- the first of the numbers from j on, at most f of them, that has it -/
def sp_fst (P : Nat → Bool) : Nat → Nat → Nat
  | j, 0 => j
  | j, f + 1 => if P j = true then j else sp_fst P (j + 1) f
theorem sp_fst_le {P : Nat → Bool} : ∀ f j, sp_fst P j f ≤ j + f := by
  intro f
  induction f with
  | zero => intro j; exact Nat.le_refl _
  | succ f ih =>
    intro j
    simp only [sp_fst]
    split
    · omega
    · have := ih (j + 1); omega
abbrev sp_thP (M : Nat → Int32) (t n m k : Nat) : Nat → Bool := fun j => decide (sp_run M t n m j (iK k 2) = nI 3)
abbrev sp_alP (M : Nat → Int32) (t n m : Nat) : Nat → Bool := fun j => decide (¬ sp_in (sp_run M t n m j) (nI 3) n < nI n)
def sp_thJ (M : Nat → Int32) (t n m k : Nat) : Nat := sp_fst (sp_thP M t n m k) 0 401
def sp_alJ (M : Nat → Int32) (t n m : Nat) : Nat := sp_fst (sp_alP M t n m) 0 401
