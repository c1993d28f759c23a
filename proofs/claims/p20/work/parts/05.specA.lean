/-! ===== what the numbers say: functions of the memory, the same for the class and for the model ===== -/
theorem gl_bz {P : Prop} [Decidable P] : ((if P then nI 1 else nI 0) = (0 : Int32)) ↔ ¬ P := by
  by_cases h : P
  · simp [h]; decide
  · simp [h]; decide
theorem gl_bn {P : Prop} [Decidable P] : (¬ (if P then nI 1 else nI 0) = (0 : Int32)) ↔ P := by
  rw [gl_bz]; exact Classical.not_not
theorem gl_nb {P : Prop} [Decidable P] : narrow .boolean (.int (if P then nI 1 else nI 0)) = .int (if P then nI 1 else nI 0) := by split <;> rfl
abbrev sp_has (x n : Int32) : Prop := ¬ x < 0 ∧ ¬ n ≤ x
abbrev sp_rd (M : Nat → Int32) (k : Nat) (c : Int32) : Prop := M (iK k 2) = nI 2 ∧ M (iK k 3) = c
abbrev sp_wt (M : Nat → Int32) (k : Nat) (c : Int32) : Prop := M (iK k 2) = nI 1 ∧ M (iK k 3) = c
/-- callers in a phase, callers of a car in a phase, among the first k -/
def sp_in (M : Nat → Int32) (is : Int32) : Nat → Int32
  | 0 => nI 0
  | k + 1 => if M (iK k 2) = is then sp_in M is k + nI 1 else sp_in M is k
def sp_of (M : Nat → Int32) (c is : Int32) : Nat → Int32
  | 0 => nI 0
  | k + 1 => if M (iK k 2) = is ∧ M (iK k 3) = c then sp_of M c is k + nI 1 else sp_of M c is k
abbrev sp_with (M : Nat → Int32) (c : Int32) (n : Nat) : Int32 := sp_of M c (nI 1) n + sp_of M c (nI 2) n
/-- the stops of a car, as bits -/
def sp_stops (M : Nat → Int32) (c : Int32) : Nat → Int32
  | 0 => nI 0
  | k + 1 => if sp_wt M k c then sp_stops M c k ||| (nI 1 <<< (M (iK k 0) &&& 31) ||| nI 1 <<< (M (iK k 1) &&& 31)) else if sp_rd M k c then sp_stops M c k ||| nI 1 <<< (M (iK k 1) &&& 31) else sp_stops M c k
def sp_ones (set : Int32) : Nat → Int32
  | 0 => nI 0
  | k + 1 => sp_ones set k + (set >>> (nI k &&& 31) &&& nI 1)
def sp_pop (set : Int32) : Int32 := sp_ones set 16
abbrev sp_hr (t : Nat) : Nat := t / 60 % 24
abbrev sp_awake (M : Nat → Int32) (t c : Nat) : Prop := ¬ M (4 + sp_hr t) ≤ nI c
abbrev sp_serves (M : Nat → Int32) (c : Nat) (f : Int32) : Prop := ¬ f < M (iC c 0) ∧ ¬ M (iC c 1) < f
def sp_far (a b : Int32) : Int32 := if a < b then b - a else a - b
abbrev sp_near (a b fl : Int32) : Prop := sp_far a fl < sp_far b fl ∨ (sp_far a fl = sp_far b fl ∧ a < b)
abbrev sp_can (M : Nat → Int32) (t c : Nat) (f g : Int32) : Prop := M (iC c 4) = 0 ∧ sp_awake M t c ∧ sp_serves M c f ∧ sp_serves M c g
def sp_bits (M : Nat → Int32) (c : Int32) (f g : Int32) (n : Nat) : Int32 := sp_stops M c n ||| nI 1 <<< (f &&& 31) ||| nI 1 <<< (g &&& 31)
def sp_cost (M : Nat → Int32) (c : Nat) (f g : Int32) (n : Nat) : Int32 := sp_far (M (iC c 3)) f + nI 2 * sp_pop (sp_bits M (nI c) f g n) + sp_with M (nI c) n
/-- the best among the first c cars, and its cost -/
def sp_best (M : Nat → Int32) (t : Nat) (f g : Int32) (n : Nat) : Nat → Int32 × Int32
  | 0 => (-9, nI 0)
  | c + 1 => if sp_can M t c f g ∧ ((sp_best M t f g n c).1 = -9 ∨ ¬ (sp_best M t f g n c).2 ≤ sp_cost M c f g n) then (nI c, sp_cost M c f g n) else sp_best M t f g n c
/-- the aim: the nearest goal of those who ride, the floor of the first who waits -/
def sp_aims (M : Nat → Int32) (c fl : Int32) : Nat → Int32 × Int32
  | 0 => (-9, -9)
  | k + 1 => if sp_rd M k c then (if (sp_aims M c fl k).1 = -9 ∨ sp_near (M (iK k 1)) (sp_aims M c fl k).1 fl then M (iK k 1) else (sp_aims M c fl k).1, (sp_aims M c fl k).2) else if (sp_aims M c fl k).2 = -9 ∧ sp_wt M k c then ((sp_aims M c fl k).1, M (iK k 0)) else sp_aims M c fl k
def sp_aim (M : Nat → Int32) (c fl : Int32) (n : Nat) : Int32 := if (sp_aims M c fl n).1 = -9 then (sp_aims M c fl n).2 else (sp_aims M c fl n).1
def sp_wait (M : Nat → Int32) (k : Nat) (t : Int32) : Int32 := (if M (iK k 2) = nI 2 ∨ M (iK k 2) = nI 3 then M (iK k 5) else t) - M (iK k 4)
abbrev sp_open (M : Nat → Int32) (k : Nat) : Prop := M (iK k 2) = 0 ∨ M (iK k 2) = nI 1
abbrev sp_same (M : Nat → Int32) (j k : Nat) : Prop := sp_open M j ∧ sp_open M k ∧ M (iK j 0) = M (iK k 0) ∧ M (iK j 1) = M (iK k 1)
/-- no earlier one of the first j is in k's group -/
def sp_none (M : Nat → Int32) (k : Nat) : Nat → Bool
  | 0 => true
  | j + 1 => sp_none M k j && !decide (sp_same M j k)
abbrev sp_first (M : Nat → Int32) (k : Nat) : Prop := sp_none M k k = true ∧ sp_open M k
def sp_groups (M : Nat → Int32) : Nat → Nat
  | 0 => 0
  | k + 1 => if sp_first M k then sp_groups M k + 1 else sp_groups M k
/-- the first caller of a group, among the first k -/
def sp_fog (M : Nat → Int32) (i : Int32) : Nat → Int32
  | 0 => -9
  | k + 1 => if sp_first M k ∧ nI (sp_groups M k) = i then nI k else sp_fog M i k
def sp_size (M : Nat → Int32) (f : Nat) : Nat → Int32
  | 0 => nI 0
  | k + 1 => if sp_same M f k then sp_size M f k + nI 1 else sp_size M f k
def sp_cst (M : Nat → Int32) (v : Int32) : Nat → Int32
  | 0 => nI 0
  | c + 1 => if M (iC c 4) = v then sp_cst M v c + nI 1 else sp_cst M v c
def sp_went (M : Nat → Int32) : Nat → Int32
  | 0 => nI 0
  | c + 1 => sp_went M c + M (iC c 5)
abbrev sp_fl (x : Int32) : Prop := ∃ f, f < 16 ∧ x = nI f
/-- a car, a caller as calls can make them -/
def sp_car (M : Nat → Int32) (c : Nat) : Prop := sp_fl (M (iC c 0)) ∧ sp_fl (M (iC c 1)) ∧ sp_fl (M (iC c 3)) ∧ ∃ p, 1 ≤ p ∧ p ≤ 8 ∧ M (iC c 2) = nI p
def sp_cal (M : Nat → Int32) (k : Nat) : Prop := sp_fl (M (iK k 0)) ∧ sp_fl (M (iK k 1)) ∧ (∃ i, i ≤ 3 ∧ M (iK k 2) = nI i) ∧ (M (iK k 2) ≠ nI 3 → M (iK k 6) = -9)
/-- a state that calls can reach: n callers, m cars, tick t -/
def sp_W (n m t : Nat) (M : Nat → Int32) : Prop := n ≤ 40 ∧ m ≤ 5 ∧ M 2 = nI n ∧ M 1 = nI m ∧ M 0 = nI t ∧ (∀ c, c < m → sp_car M c) ∧ (∀ k, k < n → sp_cal M k)
theorem nI_0' : nI 0 = 0 := by decide +kernel
/-- the shifts of floors stay among sixteen bits -/
def sp_b16 (x : Int32) : Prop := ∃ s, s < 65536 ∧ x = nI s
theorem nx_or (a b : Nat) : nI a ||| nI b = nI (a ||| b) := by
  apply Int32.toBitVec_inj.1
  show BitVec.ofNat 32 a ||| BitVec.ofNat 32 b = BitVec.ofNat 32 (a ||| b)
  exact BitVec.ofNat_or.symm
theorem nx_xor (a b : Nat) : nI a ^^^ nI b = nI (a ^^^ b) := by
  apply Int32.toBitVec_inj.1
  show BitVec.ofNat 32 a ^^^ BitVec.ofNat 32 b = BitVec.ofNat 32 (a ^^^ b)
  exact BitVec.ofNat_xor.symm
theorem sp_b16_or {x y : Int32} (hx : sp_b16 x) (hy : sp_b16 y) : sp_b16 (x ||| y) := by
  obtain ⟨a, ha, rfl⟩ := hx
  obtain ⟨b, hb, rfl⟩ := hy
  exact ⟨a ||| b, Nat.or_lt_two_pow (n := 16) ha hb, nx_or a b⟩
theorem sp_b16_sh0 : ∀ f, f < 16 → nI 1 <<< (nI f &&& 31) = nI (2 ^ f) := by decide +kernel
theorem sp_b16_sh {x : Int32} (h : sp_fl x) : sp_b16 (nI 1 <<< (x &&& 31)) := by
  obtain ⟨f, hf, rfl⟩ := h
  exact ⟨2 ^ f, Nat.pow_lt_pow_right (by decide) hf, sp_b16_sh0 f hf⟩
theorem sp_b16_0 : sp_b16 (nI 0) := ⟨0, by decide, rfl⟩
theorem sp_b16_stops {M : Nat → Int32} {c : Int32} (n : Nat) (h : ∀ k, k < n → sp_fl (M (iK k 0)) ∧ sp_fl (M (iK k 1))) : sp_b16 (sp_stops M c n) := by
  induction n with
  | zero => exact sp_b16_0
  | succ n ih =>
    have h1 := ih (fun k hk => h k (by omega))
    have h2 := h n (by omega)
    simp only [sp_stops]
    split
    · exact sp_b16_or h1 (sp_b16_or (sp_b16_sh h2.1) (sp_b16_sh h2.2))
    · split
      · exact sp_b16_or h1 (sp_b16_sh h2.2)
      · exact h1
theorem sp_far_abs0 : ∀ a, a < 16 → ∀ b, b < 16 → (if (0 : Int32) ≤ nI a - nI b then nI a - nI b else 0 - (nI a - nI b)) = sp_far (nI a) (nI b) := by decide +kernel
theorem sp_far_abs {x y : Int32} (hx : sp_fl x) (hy : sp_fl y) : (if (0 : Int32) ≤ x - y then x - y else 0 - (x - y)) = sp_far x y := by
  obtain ⟨a, ha, rfl⟩ := hx
  obtain ⟨b, hb, rfl⟩ := hy
  exact sp_far_abs0 a ha b hb
theorem sp_none_no {M : Nat → Int32} {k j : Nat} (h : sp_same M j k) : ∀ i, j < i → sp_none M k i = false := by
  intro i
  induction i with
  | zero => intro h; omega
  | succ i ih =>
    intro hj
    simp only [sp_none]
    by_cases hji : j < i
    · rw [ih hji]; rfl
    · have : j = i := by omega
      subst this
      rw [decide_eq_true h]
      simp
theorem sp_groups_le {M : Nat → Int32} (k : Nat) : sp_groups M k ≤ k := by
  induction k with
  | zero => exact Nat.le_refl _
  | succ k ih =>
    simp only [sp_groups]
    split <;> omega
theorem sp_groups_mono {M : Nat → Int32} (k d : Nat) : sp_groups M k ≤ sp_groups M (k + d) := by
  induction d with
  | zero => exact Nat.le_refl _
  | succ d ih =>
    rw [show k + (d + 1) = (k + d) + 1 by omega]
    simp only [sp_groups]
    split <;> omega
theorem sp_fog_at {M : Nat → Int32} {i : Int32} {k : Nat} (hf : sp_first M k) (hi : nI (sp_groups M k) = i) : ∀ n, k < n → n ≤ 40 → sp_fog M i n = nI k := by
  intro n
  induction n with
  | zero => intro h; omega
  | succ n ih =>
    intro hk hn
    simp only [sp_fog]
    by_cases hkn : k < n
    · rw [if_neg]
      · exact ih hkn (by omega)
      · rintro ⟨h1, h2⟩
        have a1 : sp_groups M (k + 1) = sp_groups M k + 1 := by simp only [sp_groups]; rw [if_pos hf]
        have a2 := sp_groups_mono (M := M) (k + 1) (n - (k + 1))
        rw [show k + 1 + (n - (k + 1)) = n by omega] at a2
        have a3 := sp_groups_le (M := M) n
        have a4 := sp_groups_le (M := M) k
        have a5 := (nI_eq (a := sp_groups M n) (b := sp_groups M k) (by omega) (by omega)).mp (h2.trans hi.symm)
        omega
    · have : k = n := by omega
      subst this
      rw [if_pos ⟨hf, hi⟩]
theorem sp_best_ok {M : Nat → Int32} {t : Nat} {f g : Int32} {n : Nat} : ∀ m, (sp_best M t f g n m).1 = -9 ∨ ∃ c, c < m ∧ (sp_best M t f g n m).1 = nI c := by
  intro m
  induction m with
  | zero => exact Or.inl rfl
  | succ m ih =>
    simp only [sp_best]
    split
    · exact Or.inr ⟨m, by omega, rfl⟩
    · rcases ih with h | ⟨c, h1, h2⟩
      · exact Or.inl h
      · exact Or.inr ⟨c, by omega, h2⟩
theorem sp_aims_ok {M : Nat → Int32} {c fl : Int32} {n : Nat} (hg : ∀ k, k < n → sp_fl (M (iK k 1))) : ∀ k, k ≤ n → (sp_aims M c fl k).1 = -9 ∨ sp_fl (sp_aims M c fl k).1 := by
  intro k
  induction k with
  | zero => intro _; exact Or.inl rfl
  | succ k ih =>
    intro hk
    have h := ih (by omega)
    have h2 := hg k (by omega)
    simp only [sp_aims]
    split
    · split
      · exact Or.inr h2
      · exact h
    · split
      · exact h
      · exact h
/-! the JDK's count of bits, for sixteen bits -/
abbrev sp_ush (x : Int32) (k : Nat) : Int32 := (x.toUInt32 >>> ((nI k).toUInt32 &&& Int32.toUInt32 31)).toInt32
def sp_c1 (x : Int32) : Int32 := x - (sp_ush x 1 &&& 1431655765)
def sp_c2 (x : Int32) : Int32 := (x &&& 858993459) + (sp_ush x 2 &&& 858993459)
def sp_c3 (x : Int32) : Int32 := (x + sp_ush x 4) &&& 252645135
def sp_c4 (x : Int32) : Int32 := x + sp_ush x 8
def sp_c5 (x : Int32) : Int32 := x + sp_ush x 16
def sp_bc (x : Int32) : Int32 := sp_c5 (sp_c4 (sp_c3 (sp_c2 (sp_c1 x)))) &&& nI 63
theorem sp_bc0 : ∀ a, a < 2 → ∀ b, b < 256 → sp_bc (nI (256 * a + b)) = sp_pop (nI (256 * a + b)) := by decide +kernel
