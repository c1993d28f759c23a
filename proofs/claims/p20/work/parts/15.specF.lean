theorem sp_fst_at {P : Nat → Bool} {k N : Nat} (hk : k < N) (h : P k = true) : sp_fst P k (N - k) = k := by
  obtain ⟨f, hf⟩ : ∃ f, N - k = f + 1 := ⟨N - k - 1, by omega⟩
  rw [hf, sp_fst, if_pos h]
theorem sp_fst_no {P : Nat → Bool} {k N : Nat} (hk : k < N) (h : ¬ P k = true) : sp_fst P k (N - k) = sp_fst P (k + 1) (N - (k + 1)) := by
  rw [show N - k = (N - (k + 1)) + 1 by omega, sp_fst, if_neg h]
theorem sp_fst_end {P : Nat → Bool} {N : Nat} : sp_fst P N (N - N) = N := by rw [Nat.sub_self]; rfl
def pa_there (S : Nat → Int32) (n m t : Nat) (x : Int32) : Int32 := if sp_has x (nI n) then (if sp_thJ S t n m (cN x) ≤ 400 then nI (sp_thJ S t n m (cN x)) else -9) else -1
/-- the worst car, and in how many ticks -/
def sp_worst (S : Nat → Int32) (t n m : Nat) : Nat → Int32 × Int32
  | 0 => (-9, -9)
  | c + 1 => if S (iC c 4) = nI 2 then sp_worst S t n m c else if nI (sp_alJ (sp_fail S c t n) t n m) ≤ (sp_worst S t n m c).2 then sp_worst S t n m c else (nI c, nI (sp_alJ (sp_fail S c t n) t n m))
def pa_worst (S : Nat → Int32) (n m t : Nat) (x : Int32) : Int32 := if sp_inr x (nI 0) (nI 1) then (if x = 0 then (sp_worst S t n m m).1 else (sp_worst S t n m m).2) else -1
/-- the model's memory while it looks for the worst car -/
def sp_wm (M : Nat → Int32) : Nat → Nat → Int32
  | 0 => M
  | c + 1 => if M (iC c 4) = nI 2 then sp_wm M c else sp_save M 800
theorem sp_save_2 {M : Nat → Int32} {b : Nat} (hb : 378 ≤ b) : sp_save (sp_save M b) b = sp_save M b := by
  funext i
  unfold sp_save sp_keep
  by_cases h : b ≤ i ∧ i < b + 378
  · rw [if_pos h, if_neg (by omega), if_pos h]
  · rw [if_neg h]
theorem sp_wm_or {M : Nat → Int32} : ∀ c, sp_wm M c = M ∨ sp_wm M c = sp_save M 800 := by
  intro c
  induction c with
  | zero => exact Or.inl rfl
  | succ c ih =>
    simp only [sp_wm]
    split
    · exact ih
    · exact Or.inr rfl
theorem sp_wm_lo {M : Nat → Int32} (c : Nat) : ∀ i, i < 378 → sp_wm M c i = M i := by
  intro i hi
  rcases sp_wm_or (M := M) c with h | h <;> rw [h]
  exact sp_save_lo (by omega) i hi
theorem sp_wm_save {M : Nat → Int32} (c : Nat) : sp_save (sp_wm M c) 800 = sp_save M 800 := by
  rcases sp_wm_or (M := M) c with h | h <;> rw [h]
  exact sp_save_2 (by omega)
/-- the waits: their sum, the greatest, who has it -/
def sp_ws (S : Nat → Int32) (tk : Int32) : Nat → Int32 × Int32 × Int32
  | 0 => (nI 0, -9, -9)
  | k + 1 => ((sp_ws S tk k).1 + sp_wait S k tk, if sp_wait S k tk ≤ (sp_ws S tk k).2.1 then (sp_ws S tk k).2 else (sp_wait S k tk, nI k))
def pa_waits (S : Nat → Int32) (n t : Nat) (x : Int32) : Int32 := if sp_inr x (nI 0) (nI 2) then (if x = nI 2 then (sp_ws S (nI t) n).1 else if x = 0 then (sp_ws S (nI t) n).2.1 else (sp_ws S (nI t) n).2.2) else -1
def pc_count (S : Nat → Int32) (n m t p : Nat) : Nat → Int32
  | 0 => nI t
  | 1 => nI (sp_hr t)
  | 2 => nI m
  | 3 => nI n
  | 4 => sp_in S (nI 0) n
  | 5 => sp_in S (nI 1) n
  | 6 => sp_in S (nI 2) n
  | 7 => sp_in S (nI 3) n
  | 8 => nI (sp_groups S n)
  | 9 => sp_went S m
  | 10 => S 3
  | 11 => sp_cst S (nI 1) m
  | 12 => sp_cst S (nI 2) m
  | 13 => nI p
  | _ => -1
def pc_car (S : Nat → Int32) (n t c : Nat) : Nat → Int32
  | 0 => S (iC c 3)
  | 1 => S (iC c 4)
  | 2 => sp_of S (nI c) (nI 2) n
  | 3 => sp_of S (nI c) (nI 1) n
  | 4 => sp_pop (sp_stops S (nI c) n)
  | 5 => sp_aim S (nI c) (S (iC c 3)) n
  | 6 => S (iC c 5)
  | 7 => if sp_awake S t c then nI 1 else nI 0
  | _ => -1
/-- by a number from 0 to N, -1 else -/
def pa_tab (N : Nat) (f : Nat → Int32) (x : Int32) : Int32 := if x.toInt < 0 ∨ (N : Int) < x.toInt then -1 else f (cN x)
theorem pa_tab_out {N : Nat} {f : Nat → Int32} {x : Int32} (h : x.toInt < 0 ∨ (N : Int) < x.toInt) : pa_tab N f x = -1 := by unfold pa_tab; rw [if_pos h]
theorem pa_tab_in {N : Nat} {f : Nat → Int32} {i : Nat} (hN : N < 1000) (h : i ≤ N) : pa_tab N f (nI i) = f i := by
  unfold pa_tab
  rw [nI_toInt (by omega), if_neg (by omega), show cN (nI i) = i from nI_clamp (by omega)]
def pa_car (S : Nat → Int32) (n m t : Nat) (x y : Int32) : Int32 := if sp_has x (nI m) then pa_tab 7 (pc_car S n t (cN x)) y else -1
def pa_caller (S : Nat → Int32) (n : Nat) (x y : Int32) : Int32 := if sp_has x (nI n) ∧ sp_inr y (nI 0) (nI 7) then S (iK (cN x) (cN y)) else -1
theorem sp_fog_in {M : Nat → Int32} {i : Int32} : ∀ n, sp_fog M i n = -9 ∨ ∃ f, f < n ∧ sp_first M f ∧ sp_fog M i n = nI f := by
  intro n
  induction n with
  | zero => exact Or.inl rfl
  | succ n ih =>
    simp only [sp_fog]
    split
    · rename_i h; exact Or.inr ⟨n, by omega, h.1, rfl⟩
    · exact ih.imp id (fun ⟨f, a, b⟩ => ⟨f, by omega, b⟩)
def pa_group (S : Nat → Int32) (n : Nat) (i y : Int32) : Int32 := if ¬ i < 0 ∧ sp_inr y (nI 0) (nI 3) then (if sp_fog S i n = -9 ∨ y = nI 3 then sp_fog S i n else if y = nI 2 then sp_size S (cN (sp_fog S i n)) n else S (iK (cN (sp_fog S i n)) (cN y))) else -1
def pa_cost (S : Nat → Int32) (n m t : Nat) (x f g : Int32) : Int32 := if sp_has x (nI m) ∧ sp_way f g then (if sp_can S t (cN x) f g then sp_cost S (cN x) f g n else -9) else -1
def pa_would (S : Nat → Int32) (n m t : Nat) (f g : Int32) : Int32 := if sp_way f g then (sp_best S t f g n m).1 else -1
theorem sp_h01 {y : Int32} (h : sp_inr y (nI 0) (nI 1)) : y = nI 0 ∨ y = nI 1 := by
  obtain ⟨c, -, h2, rfl⟩ := sp_inr_n (by omega) (by omega) h
  rcases (show c = 0 ∨ c = 1 by omega) with rfl | rfl
  · exact Or.inl rfl
  · exact Or.inr rfl
/-- a caller who is only looking changes nothing of what a car is for another -/
theorem sp_addK_lo {M : Nat → Int32} {n : Nat} {f g tk : Int32} {i : Nat} (h2 : i ≠ 2) (hi : ∀ w, w < 8 → i ≠ iK n w) : sp_addK M n f g tk i = M i := by
  unfold sp_addK
  rw [gl_upd_ne h2, oK (by omega) hi, oK (by omega) hi, oK (by omega) hi, oK (by omega) hi, oK (by omega) hi, oK (by omega) hi, oK (by omega) hi, oK (by omega) hi]
theorem sp_addK_k {M : Nat → Int32} {n k v : Nat} {f g tk : Int32} (hk : k < n) (hv : v < 8) : sp_addK M n f g tk (iK k v) = M (iK k v) := sp_addK_lo (by unfold iK; omega) (fun w hw => iK_ne hv hw (by omega))
theorem sp_addK_c {M : Nat → Int32} {n c v : Nat} {f g tk : Int32} (hc : c < 5) (hv : v < 6) : sp_addK M n f g tk (iC c v) = M (iC c v) := sp_addK_lo (by unfold iC; omega) (fun w hw => iCK hc hv)
theorem sp_addK_0 {M : Nat → Int32} {n : Nat} {f g tk : Int32} : sp_addK M n f g tk (iK n 0) = f ∧ sp_addK M n f g tk (iK n 1) = g ∧ sp_addK M n f g tk (iK n 2) = nI 0 ∧ sp_addK M n f g tk (iK n 3) = -9 ∧ sp_addK M n f g tk (iK n 6) = -9 := by
  have n2 : ∀ w, iK n w ≠ 2 := fun w => by unfold iK; omega
  unfold sp_addK
  refine ⟨?_, ?_, ?_, ?_, ?_⟩
  · rw [gl_upd_ne (n2 0), rK (by omega) (by omega) (by omega), rK (by omega) (by omega) (by omega), rK (by omega) (by omega) (by omega), rK (by omega) (by omega) (by omega), rK (by omega) (by omega) (by omega), rK (by omega) (by omega) (by omega), rK (by omega) (by omega) (by omega), gl_upd_eq]
  · rw [gl_upd_ne (n2 1), rK (by omega) (by omega) (by omega), rK (by omega) (by omega) (by omega), rK (by omega) (by omega) (by omega), rK (by omega) (by omega) (by omega), rK (by omega) (by omega) (by omega), rK (by omega) (by omega) (by omega), gl_upd_eq]
  · rw [gl_upd_ne (n2 2), rK (by omega) (by omega) (by omega), rK (by omega) (by omega) (by omega), rK (by omega) (by omega) (by omega), rK (by omega) (by omega) (by omega), rK (by omega) (by omega) (by omega), gl_upd_eq]
  · rw [gl_upd_ne (n2 3), rK (by omega) (by omega) (by omega), rK (by omega) (by omega) (by omega), rK (by omega) (by omega) (by omega), rK (by omega) (by omega) (by omega), gl_upd_eq]
  · rw [gl_upd_ne (n2 6), rK (by omega) (by omega) (by omega), gl_upd_eq]
theorem sp_addK_W {n m t : Nat} {M : Nat → Int32} (w : sp_W n m t M) (hn : n < 40) {f g tk : Int32} (hf : sp_fl f) (hg : sp_fl g) : sp_W (n + 1) m t (sp_addK M n f g tk) := by
  obtain ⟨h1, h2, h3, h4, h5, h6, h7⟩ := w
  refine ⟨by omega, h2, by unfold sp_addK; rw [gl_upd_eq], ?_, ?_, fun c hc => ?_, fun k hk => ?_⟩
  · rw [sp_addK_lo (by omega) (fun w _ => by unfold iK; omega)]; exact h4
  · rw [sp_addK_lo (by omega) (fun w _ => by unfold iK; omega)]; exact h5
  · have := h6 c hc
    unfold sp_car at this ⊢
    rw [sp_addK_c (by omega) (by omega), sp_addK_c (by omega) (by omega), sp_addK_c (by omega) (by omega), sp_addK_c (by omega) (by omega)]
    exact this
  · by_cases hkn : k < n
    · have := h7 k hkn
      unfold sp_cal at this ⊢
      rw [sp_addK_k hkn (by omega), sp_addK_k hkn (by omega), sp_addK_k hkn (by omega), sp_addK_k hkn (by omega)]
      exact this
    · have : k = n := by omega
      subst this
      obtain ⟨a0, a1, a2, -, a6⟩ := sp_addK_0 (M := M) (n := k) (f := f) (g := g) (tk := tk)
      unfold sp_cal
      rw [a0, a1, a2, a6]
      exact ⟨hf, hg, ⟨0, by omega, rfl⟩, fun _ => rfl⟩
theorem sp_addK_of {M : Nat → Int32} {n : Nat} {f g tk c is : Int32} : ∀ k, k ≤ n → sp_of (sp_addK M n f g tk) c is k = sp_of M c is k := by
  intro k
  induction k with
  | zero => intro _; rfl
  | succ k ih =>
    intro hk
    simp only [sp_of]
    rw [sp_addK_k (by omega) (by omega), sp_addK_k (by omega) (by omega), ih (by omega)]
theorem sp_addK_stops {M : Nat → Int32} {n : Nat} {f g tk c : Int32} : ∀ k, k ≤ n → sp_stops (sp_addK M n f g tk) c k = sp_stops M c k := by
  intro k
  induction k with
  | zero => intro _; rfl
  | succ k ih =>
    intro hk
    simp only [sp_stops, sp_wt, sp_rd]
    rw [sp_addK_k (by omega) (by omega), sp_addK_k (by omega) (by omega), sp_addK_k (by omega) (by omega), sp_addK_k (by omega) (by omega), ih (by omega)]
theorem sp_addK_best {M : Nat → Int32} {n t : Nat} {f g f2 g2 tk : Int32} : ∀ c, c ≤ 5 → sp_best (sp_addK M n f2 g2 tk) t f g (n + 1) c = sp_best M t f g n c := by
  intro c
  induction c with
  | zero => intro _; rfl
  | succ c ih =>
    intro hc
    obtain ⟨-, -, a2, a3, -⟩ := sp_addK_0 (M := M) (n := n) (f := f2) (g := g2) (tk := tk)
    have e2 : sp_of (sp_addK M n f2 g2 tk) (nI c) (nI 1) (n + 1) = sp_of M (nI c) (nI 1) n := by
      simp only [sp_of]
      rw [a2, if_neg (fun q => absurd q.1 (by decide)), sp_addK_of n (Nat.le_refl _)]
    have e3 : sp_of (sp_addK M n f2 g2 tk) (nI c) (nI 2) (n + 1) = sp_of M (nI c) (nI 2) n := by
      simp only [sp_of]
      rw [a2, if_neg (fun q => absurd q.1 (by decide)), sp_addK_of n (Nat.le_refl _)]
    have e4 : sp_stops (sp_addK M n f2 g2 tk) (nI c) (n + 1) = sp_stops M (nI c) n := by
      simp only [sp_stops, sp_wt, sp_rd]
      rw [a2, if_neg (fun q => absurd q.1 (by decide)), if_neg (fun q => absurd q.1 (by decide)), sp_addK_stops n (Nat.le_refl _)]
    have e5 : sp_cost (sp_addK M n f2 g2 tk) c f g (n + 1) = sp_cost M c f g n := by
      unfold sp_cost sp_bits sp_with
      rw [e2, e3, e4, sp_addK_c (by omega) (by omega)]
    have e6 : sp_addK M n f2 g2 tk (4 + sp_hr t) = M (4 + sp_hr t) := by
      have : sp_hr t < 24 := Nat.mod_lt _ (by omega)
      exact sp_addK_lo (by omega) (fun w _ => by unfold iK; omega)
    simp only [sp_best, sp_can, sp_awake, sp_serves]
    have c0 : sp_addK M n f2 g2 tk (iC c 0) = M (iC c 0) := sp_addK_c (by omega) (by omega)
    have c1 : sp_addK M n f2 g2 tk (iC c 1) = M (iC c 1) := sp_addK_c (by omega) (by omega)
    have c4 : sp_addK M n f2 g2 tk (iC c 4) = M (iC c 4) := sp_addK_c (by omega) (by omega)
    simp only [ih (by omega), e5, e6, c0, c1, c4]
