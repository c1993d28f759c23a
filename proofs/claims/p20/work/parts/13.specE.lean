theorem sp_W_lo {n m t : Nat} {M M' : Nat → Int32} (h : ∀ i, i < 378 → M' i = M i) (w : sp_W n m t M) : sp_W n m t M' := by
  obtain ⟨h1, h2, h3, h4, h5, h6, h7⟩ := w
  refine ⟨h1, h2, by rw [h _ (by omega)]; exact h3, by rw [h _ (by omega)]; exact h4, by rw [h _ (by omega)]; exact h5, fun c hc => ?_, fun k hk => ?_⟩
  · have := h6 c hc
    unfold sp_car at this ⊢
    rw [h _ (by unfold iC; omega), h _ (by unfold iC; omega), h _ (by unfold iC; omega), h _ (by unfold iC; omega)]
    exact this
  · have := h7 k hk
    unfold sp_cal at this ⊢
    rw [h _ (by unfold iK; omega), h _ (by unfold iK; omega), h _ (by unfold iK; omega), h _ (by unfold iK; omega)]
    exact this
theorem sp_acts_lo {M : Nat → Int32} {p : Nat} : ∀ i, i < 378 → sp_acts M p i = M i := by
  intro i hi
  unfold sp_acts
  split
  · rw [gl_upd_ne (by omega)]
    unfold sp_keep
    rw [if_neg (by omega), gl_upd_ne (by omega)]
    unfold sp_shift
    rw [if_neg (by omega)]
  · rw [gl_upd_ne (by omega)]
    unfold sp_keep
    rw [if_neg (by omega)]
theorem sp_has_n {x : Int32} {m : Nat} (hm : m < 2 ^ 31) (h : sp_has x (nI m)) : ∃ c, c < m ∧ x = nI c := by
  obtain ⟨c, hc, rfl⟩ := nI_of h.1
  refine ⟨c, ?_, rfl⟩
  rcases Nat.lt_or_ge c m with q | q
  · exact q
  · exact absurd (nI_le q hc) h.2
theorem sp_inr_n {x : Int32} {a b : Nat} (hb : b < 2 ^ 31) (ha : a < 2 ^ 31) (h : sp_inr x (nI a) (nI b)) : ∃ c, a ≤ c ∧ c ≤ b ∧ x = nI c := by
  have h0 : ¬ x < 0 := by
    have h1 := h.1
    have z : (0 : Int32).toInt = 0 := by decide
    simp only [Int32.lt_iff_toInt_lt, nI_toInt ha, z] at h1 ⊢
    omega
  obtain ⟨c, hc, rfl⟩ := nI_of h0
  refine ⟨c, ?_, ?_, rfl⟩
  · rcases Nat.lt_or_ge c a with q | q
    · exact absurd (nI_lt q ha) h.1
    · exact q
  · rcases Nat.lt_or_ge b c with q | q
    · exact absurd (nI_lt q hc) h.2
    · exact q
/-- copying the s row aside, and back -/
def sp_save (M : Nat → Int32) (b : Nat) : Nat → Int32 := sp_keep M b 378
def sp_load (M : Nat → Int32) (b : Nat) : Nat → Int32 := sp_back M b 378
theorem sp_save_lo {M : Nat → Int32} {b : Nat} (hb : 378 ≤ b) : ∀ i, i < 378 → sp_save M b i = M i := by
  intro i hi
  unfold sp_save sp_keep
  rw [if_neg (by omega)]
/-- what stands from 378 on isn't touched by what a house does -/
theorem hK {k w : Nat} (hk : k < 40) (hw : w < 8) {i : Nat} (hi : 378 ≤ i) : i ≠ iK k w := by unfold iK; omega
theorem hC {c w : Nat} (hc : c < 5) (hw : w < 6) {i : Nat} (hi : 378 ≤ i) : i ≠ iC c w := by unfold iC; omega
theorem sp_give_hi {M : Nat → Int32} {k : Nat} (hk : k < 40) {c : Int32} {i : Nat} (hi : 378 ≤ i) : sp_give M k c i = M i := by
  unfold sp_give
  split
  · rfl
  · rw [gl_upd_ne (hK hk (by omega) hi), gl_upd_ne (hK hk (by omega) hi), gl_upd_ne (hK hk (by omega) hi)]
theorem sp_look_hi {M : Nat → Int32} {t n m i : Nat} (hi : 378 ≤ i) : ∀ k, k ≤ 40 → sp_look M t n m k i = M i := by
  intro k
  induction k with
  | zero => intro _; rfl
  | succ k ih =>
    intro hk
    simp only [sp_look]
    split
    · rw [sp_give_hi (by omega) hi]; exact ih (by omega)
    · exact ih (by omega)
theorem sp_outs_hi {M : Nat → Int32} {c fl tk : Int32} {i : Nat} (hi : 378 ≤ i) : ∀ k, k ≤ 40 → sp_outs M c fl tk k i = M i := by
  intro k
  induction k with
  | zero => intro _; rfl
  | succ k ih =>
    intro hk
    simp only [sp_outs]
    split
    · rw [gl_upd_ne (hK (by omega) (by omega) hi), gl_upd_ne (hK (by omega) (by omega) hi)]; exact ih (by omega)
    · exact ih (by omega)
theorem sp_tak_hi {M : Nat → Int32} {c fl pl tk : Int32} {n i : Nat} (hi : 378 ≤ i) : ∀ k, k ≤ 40 → sp_tak M c fl pl tk n k i = M i := by
  intro k
  induction k with
  | zero => intro _; rfl
  | succ k ih =>
    intro hk
    simp only [sp_tak]
    split
    · rw [gl_upd_ne (hK (by omega) (by omega) hi), gl_upd_ne (hK (by omega) (by omega) hi)]; exact ih (by omega)
    · exact ih (by omega)
theorem sp_stop_hi {M : Nat → Int32} {c t n i : Nat} (hc : c < 5) (hn : n ≤ 40) (hi : 378 ≤ i) : sp_stop M c t n i = M i := by
  unfold sp_stop
  split
  · rw [gl_upd_ne (by omega)]
    unfold sp_two
    rw [sp_tak_hi hi n hn, sp_outs_hi hi n hn]
  · split
    · rfl
    · unfold sp_trav
      rw [gl_upd_ne (hC hc (by omega) hi), gl_upd_ne (hC hc (by omega) hi)]
theorem sp_cars_hi {M : Nat → Int32} {t n i : Nat} (hn : n ≤ 40) (hi : 378 ≤ i) : ∀ c, c ≤ 5 → sp_cars M t n c i = M i := by
  intro c
  induction c with
  | zero => intro _; rfl
  | succ c ih =>
    intro hc
    simp only [sp_cars]
    split
    · rw [sp_stop_hi (by omega) hn hi]; exact ih (by omega)
    · exact ih (by omega)
theorem sp_tick_hi {M : Nat → Int32} {t n m i : Nat} (hn : n ≤ 40) (hm : m ≤ 5) (hi : 378 ≤ i) : sp_tick M t n m i = M i := by
  unfold sp_tick
  rw [gl_upd_ne (by omega), sp_cars_hi hn hi m hm, sp_look_hi hi n hn]
theorem sp_run_hi {M : Nat → Int32} {t n m i : Nat} (hn : n ≤ 40) (hm : m ≤ 5) (hi : 378 ≤ i) : ∀ j, sp_run M t n m j i = M i := by
  intro j
  induction j with
  | zero => rfl
  | succ j ih =>
    simp only [sp_run]
    rw [sp_tick_hi hn hm hi]; exact ih
theorem sp_fail_hi {M : Nat → Int32} {c t n i : Nat} (hc : c < 5) (hn : n ≤ 40) (hi : 378 ≤ i) : sp_fail M c t n i = M i := by
  unfold sp_fail
  have : ∀ k, k ≤ 40 → sp_lose (upd M (iC c 4) (nI 2)) (nI c) (M (iC c 3)) (nI t) k i = M i := by
    intro k
    induction k with
    | zero => intro _; exact gl_upd_ne (hC hc (by omega) hi)
    | succ k ih =>
      intro hk
      simp only [sp_lose]
      split
      · split
        · rw [gl_upd_ne (hK (by omega) (by omega) hi), gl_upd_ne (hK (by omega) (by omega) hi), gl_upd_ne (hK (by omega) (by omega) hi)]; exact ih (by omega)
        · rw [gl_upd_ne (hK (by omega) (by omega) hi), gl_upd_ne (hK (by omega) (by omega) hi), gl_upd_ne (hK (by omega) (by omega) hi)]; exact ih (by omega)
      · split
        · rw [gl_upd_ne (hK (by omega) (by omega) hi), gl_upd_ne (hK (by omega) (by omega) hi)]; exact ih (by omega)
        · exact ih (by omega)
  exact this n hn
/-- after a trial the model stands as before -/
theorem sp_load_of {M T : Nat → Int32} {b : Nat} (hb : 378 ≤ b) (hT : ∀ i, 378 ≤ i → T i = sp_save M b i) : sp_load T b = sp_save M b := by
  funext i
  unfold sp_load sp_back
  split
  · rw [hT _ (by omega)]
    unfold sp_save sp_keep
    rw [if_pos (by omega), if_neg (by omega), Nat.add_sub_cancel_left]
  · exact hT i (by omega)
/-! the public methods' answers and changes -/
abbrev cN (x : Int32) : Nat := x.toNatClampNeg
abbrev sp_okC (lo hi pl : Int32) : Prop := sp_isf lo ∧ sp_isf hi ∧ ¬ hi ≤ lo ∧ sp_inr pl (nI 1) (nI 8)
theorem sp_okC_in (lo hi pl : Int32) : (sp_inr lo (nI 0) (nI 14) ∧ sp_inr hi (nI 1) (nI 15) ∧ ¬ hi ≤ lo ∧ sp_inr pl (nI 1) (nI 8)) ↔ sp_okC lo hi pl := by
  have e0 : (nI 0).toInt = 0 := by decide
  have e1 : (nI 1).toInt = 1 := by decide
  have e14 : (nI 14).toInt = 14 := by decide
  have e15 : (nI 15).toInt = 15 := by decide
  have e16 : (nI 16).toInt = 16 := by decide
  have z : (0 : Int32).toInt = 0 := by decide
  simp only [sp_inr, sp_okC, sp_isf, Int32.lt_iff_toInt_lt, Int32.le_iff_toInt_le, e0, e1, e14, e15, e16, z]
  omega
def pa_addCar (m : Nat) (lo hi pl : Int32) : Int32 := if sp_okC lo hi pl then (if m = 5 then -3 else nI m) else -1
abbrev sp_okA (h v : Int32) : Prop := sp_inr h (nI 0) (nI 23) ∧ sp_inr v (nI 1) (nI 5)
def pa_awake (S : Nat → Int32) (h v : Int32) : Int32 := if sp_okA h v then S (4 + cN h) else -1
def pa_hold (S : Nat → Int32) (n m : Nat) (x y : Int32) : Int32 := if sp_has x (nI m) ∧ sp_inr y (nI 0) (nI 1) then (if S (iC (cN x) 4) = nI 2 ∨ S (iC (cN x) 4) = y then -2 else sp_with (upd S (iC (cN x) 4) y) x n) else -1
abbrev ok_hold (S : Nat → Int32) (m : Nat) (x y : Int32) : Prop := (sp_has x (nI m) ∧ sp_inr y (nI 0) (nI 1)) ∧ ¬ (S (iC (cN x) 4) = nI 2 ∨ S (iC (cN x) 4) = y)
def pa_fail (S : Nat → Int32) (n m t : Nat) (x : Int32) : Int32 := if sp_has x (nI m) then (if S (iC (cN x) 4) = nI 2 then -2 else sp_in (sp_fail S (cN x) t n) (nI 0) n) else -1
abbrev ok_fail (S : Nat → Int32) (m : Nat) (x : Int32) : Prop := sp_has x (nI m) ∧ ¬ S (iC (cN x) 4) = nI 2
def pa_repair (S : Nat → Int32) (m : Nat) (x : Int32) : Int32 := if sp_has x (nI m) then (if S (iC (cN x) 4) = nI 2 then S (iC (cN x) 3) else -2) else -1
abbrev ok_repair (S : Nat → Int32) (m : Nat) (x : Int32) : Prop := sp_has x (nI m) ∧ S (iC (cN x) 4) = nI 2
def pa_call (n : Nat) (f g : Int32) : Int32 := if sp_way f g then (if n = 40 then -3 else nI n) else -1
def sp_call (S : Nat → Int32) (n m t : Nat) (f g : Int32) : Nat → Int32 := sp_give (sp_addK S n f g (nI t)) n (sp_best S t f g n m).1
abbrev ok_pass (t : Nat) (x : Int32) : Prop := sp_inr x (nI 1) (nI 200) ∧ ¬ nI 20000 < nI t + x
def pa_pass (S : Nat → Int32) (n m t : Nat) (x : Int32) : Int32 := if sp_inr x (nI 1) (nI 200) then (if nI 20000 < nI t + x then -2 else sp_in (sp_run S t n m (cN x)) (nI 3) n) else -1
def pa_undo (p : Nat) : Int32 := if p = 0 then -2 else nI (p - 1)
