/-! ===== what the law looks at between actions ===== -/
abbrev so_one (S : Nat → Int32) (k j : Nat) : Prop := sp_open S j ∧ S (iK j 0) = S (iK k 0) ∧ S (iK j 1) = S (iK k 1)
def so_size (S : Nat → Int32) (k : Nat) : Nat → Int32
  | 0 => nI 0
  | j + 1 => if so_one S k j then so_size S k j + nI 1 else so_size S k j
def so_fst (S : Nat → Int32) (k : Nat) : Nat → Bool
  | 0 => decide (sp_open S k)
  | j + 1 => so_fst S k j && !(decide (so_one S k j) && decide (j < k))
section SO
variable {S : Nat → Int32} {n m t p k j c A : Nat}
theorem so_fst_s : so_fst S k (j + 1) = true ↔ so_fst S k j = true ∧ ¬ (so_one S k j ∧ j < k) := by
  simp only [so_fst, Bool.and_eq_true, Bool.not_eq_true', Bool.and_eq_false_iff, decide_eq_false_iff_not]
  constructor
  · rintro ⟨a, b⟩
    exact ⟨a, fun q => b.elim (fun b => b q.1) (fun b => b q.2)⟩
  · rintro ⟨a, b⟩
    refine ⟨a, ?_⟩
    by_cases q : so_one S k j
    · exact Or.inr (fun r => b ⟨q, r⟩)
    · exact Or.inl q
theorem so_fst_all : ∀ j, so_fst S k j = true ↔ sp_open S k ∧ ∀ i, i < j → ¬ (so_one S k i ∧ i < k) := by
  intro j
  induction j with
  | zero => simp [so_fst]
  | succ j ih =>
    rw [so_fst_s, ih]
    constructor
    · rintro ⟨⟨a, b⟩, d⟩
      refine ⟨a, fun i hi => ?_⟩
      by_cases e : i = j
      · rw [e]; exact d
      · exact b i (by omega)
    · rintro ⟨a, b⟩
      exact ⟨⟨a, fun i hi => b i (by omega)⟩, b j (by omega)⟩
theorem sp_none_all : ∀ j, sp_none S k j = true ↔ ∀ i, i < j → ¬ sp_same S i k := by
  intro j
  induction j with
  | zero => simp [sp_none]
  | succ j ih =>
    simp only [sp_none, Bool.and_eq_true, Bool.not_eq_true', decide_eq_false_iff_not]
    rw [ih]
    constructor
    · rintro ⟨a, b⟩ i hi
      by_cases e : i = j
      · rw [e]; exact b
      · exact a i (by omega)
    · intro a
      exact ⟨fun i hi => a i (by omega), a j (by omega)⟩
theorem so_first (hk : k < n) : so_fst S k n = true ↔ sp_first S k := by
  rw [so_fst_all]
  unfold sp_first
  rw [sp_none_all]
  constructor
  · rintro ⟨a, b⟩
    exact ⟨fun i hi q => b i (by omega) ⟨⟨q.1, q.2.2.1, q.2.2.2⟩, hi⟩, a⟩
  · rintro ⟨a, b⟩
    exact ⟨b, fun i _ q => a i q.2 ⟨q.1.1, b, q.1.2.1, q.1.2.2⟩⟩
theorem so_size_ok (h : sp_open S k) : ∀ j, so_size S k j = sp_size S k j := by
  intro j
  induction j with
  | zero => rfl
  | succ j ih =>
    simp only [so_size, sp_size]
    rw [ih]
    by_cases q : so_one S k j
    · rw [if_pos q, if_pos (show sp_same S k j from ⟨h, q.1, q.2.1.symm, q.2.2.symm⟩)]
    · rw [if_neg q, if_neg (fun r : sp_same S k j => q ⟨r.2.1, r.2.2.1.symm, r.2.2.2.symm⟩)]
theorem so_op0 : ∀ i, i ≤ 3 → (nI 2 ≤ nI i ↔ ¬ (nI i = 0 ∨ nI i = nI 1)) := by decide +kernel
theorem so_op (h : ∃ i, i ≤ 3 ∧ S (iK j 2) = nI i) : nI 2 ≤ S (iK j 2) ↔ ¬ sp_open S j := by
  obtain ⟨i, hi, e⟩ := h
  unfold sp_open
  rw [e]
  exact so_op0 i hi
theorem so_car (hc : c < m) (hm5 : m ≤ 5) {i : Nat} (hi : i ≤ 7) : pa_car S n m t (nI c) (nI i) = pc_car S n t c i := by
  rw [pa_car, if_pos (has_n hc (by omega)), show cN (nI c) = c from nI_clamp (by omega)]
  exact pa_tab_in (by omega) hi
theorem so_car8 (hc : c < m) (hm5 : m ≤ 5) : pa_car S n m t (nI c) (nI 8) = -1 := by
  rw [pa_car, if_pos (has_n hc (by omega))]
  exact pa_tab_out (Or.inr (by rw [nI_toInt (by omega)]; omega))
theorem so_car_m : pa_car S n m t (nI m) (nI 0) = -1 := by
  rw [pa_car, if_neg (fun z => z.2 (Int32.le_refl _))]
theorem so_caller (hk : k < n) (hn : n ≤ 40) {i : Nat} (hi : i ≤ 7) : pa_caller S n (nI k) (nI i) = S (iK k i) := by
  rw [pa_caller, if_pos ⟨has_n hk (by omega), inr_n (by omega) hi (by omega)⟩, show cN (nI k) = k from nI_clamp (by omega), show cN (nI i) = i from nI_clamp (by omega)]
theorem so_caller8 : pa_caller S n (nI k) (nI 8) = -1 := by
  rw [pa_caller, if_neg (fun z => z.2.2 (by decide))]
theorem so_caller_n : pa_caller S n (nI n) (nI 0) = -1 := by
  rw [pa_caller, if_neg (fun z => z.1.2 (Int32.le_refl _))]
theorem so_room (w : sp_W n m t S) (z : qZ S n m) (hc : c < m) : ¬ S (iC c 2) < sp_of S (nI c) (nI 2) n := by
  obtain ⟨p, hp1, hp8, ep⟩ := (w.2.2.2.2.2.1 c hc).2.2.2
  have h := (z.1 c hc).2
  have h2 := sp_ofN_le (M := S) (c := nI c) (is := nI 2) n
  have := w.1
  rw [ep, show cN (nI p) = p from nI_clamp (by omega)] at h
  rw [ep, sp_of_N, nI_ltI (by omega) (by omega)]
  omega
theorem so_by1 (q : qk S A k) (h : ¬ 0 ≤ qby S k) : -9 = S (iK k 3) := by
  rcases qk_car q with e | ⟨c, hc, e⟩
  · exact e.symm
  · exact absurd (by unfold qby; rw [e, if_neg (n9 (by omega)), ← nI_0', nI_leI (by omega) (by omega)]; omega) h
theorem so_by2 (h : 0 ≤ qby S k) : qby S k = S (iK k 3) := by
  unfold qby at h ⊢
  by_cases e : S (iK k 3) = -9
  · rw [if_pos e] at h; exact absurd h (by decide)
  · rw [if_neg e]
def qx (S : Nat → Int32) (k : Nat) : Int32 := if S (iK k 5) = -9 then -1 else S (iK k 5)
def qy (S : Nat → Int32) (k : Nat) : Int32 := if S (iK k 6) = -9 then -1 else S (iK k 6)
theorem qN_1 {x : Nat} (hx : x < 2 ^ 31) : nI x - nI 1 = if qN x = -9 then -1 else qN x := by
  cases x with
  | zero => rw [if_pos (show qN 0 = -9 from rfl)]; decide
  | succ x => rw [qN_s, if_neg (n9 (by omega)), pk_sub (by omega)]; rfl
theorem so_ride (q : qk S A k) : (lN (rkn S k) &&& 1048575).toInt32 - nI 1 = qx S k := by
  obtain ⟨f, g, s', b, u, a, x, y, hf, hg, hs', hb, hu, ha, hx, hy, q1, q2, q3, h0, h1, h2, h3, h7, h4, h5, h6⟩ := q
  unfold qx
  rw [rkn_q (by omega) (by omega) h5 h6, show (1048575 : Int64) = lN (1048576 - 1) from rfl, g_mask (s := 20) rfl (by omega) (by omega), lN_i, show (x + 1048576 * y) % 1048576 = x by omega, qN_1 (by omega), h5]
theorem so_came (q : qk S A k) : (lN (rkn S k) >>> ((nI 20).toInt64 &&& 63)).toInt32 - nI 1 = qy S k := by
  obtain ⟨f, g, s', b, u, a, x, y, hf, hg, hs', hb, hu, ha, hx, hy, q1, q2, q3, h0, h1, h2, h3, h7, h4, h5, h6⟩ := q
  unfold qy
  rw [rkn_q (by omega) (by omega) h5 h6, q_shr (by omega) (by omega), lN_i, show (x + 1048576 * y) / 2 ^ 20 = y by omega, qN_1 (by omega), h6]
theorem so_x1 (q : qk S A k) (h : ¬ 0 ≤ qx S k) : -9 = S (iK k 5) := by
  obtain ⟨f, g, s', b, u, a, x, y, hf, hg, hs', hb, hu, ha, hx, hy, q1, q2, q3, h0, h1, h2, h3, h7, h4, h5, h6⟩ := q
  cases x with
  | zero => exact h5.symm
  | succ x => exact absurd (by unfold qx; rw [h5, qN_s, if_neg (n9 (by omega)), ← nI_0', nI_leI (by omega) (by omega)]; omega) h
theorem so_x2 (h : 0 ≤ qx S k) : qx S k = S (iK k 5) := by
  unfold qx at h ⊢
  by_cases e : S (iK k 5) = -9
  · rw [if_pos e] at h; exact absurd h (by decide)
  · rw [if_neg e]
theorem so_y1 (q : qk S A k) (h : ¬ 0 ≤ qy S k) : -9 = S (iK k 6) := by
  obtain ⟨f, g, s', b, u, a, x, y, hf, hg, hs', hb, hu, ha, hx, hy, q1, q2, q3, h0, h1, h2, h3, h7, h4, h5, h6⟩ := q
  cases y with
  | zero => exact h6.symm
  | succ x => exact absurd (by unfold qy; rw [h6, qN_s, if_neg (n9 (by omega)), ← nI_0', nI_leI (by omega) (by omega)]; omega) h
theorem so_y2 (h : 0 ≤ qy S k) : qy S k = S (iK k 6) := by
  unfold qy at h ⊢
  by_cases e : S (iK k 6) = -9
  · rw [if_pos e] at h; exact absurd h (by decide)
  · rw [if_neg e]
theorem lg_cmp_same {x y : Int64} (h : x = y) : lg_cmp x y = 0 := by
  subst h
  simp [lg_cmp]
theorem so_called (hA : A < 2048) (q : qk S A k) : lg_cmp (S (iK k 4)).toInt64 (lN (pkn S k) >>> ((nI 24).toInt64 &&& 63)) = 0 := by
  have hl := (qk_lt hA q).1
  obtain ⟨f, g, s', b, u, a, x, y, hf, hg, hs', hb, hu, ha, hx, hy, q1, q2, q3, h0, h1, h2, h3, h7, h4, h5, h6⟩ := q
  refine lg_cmp_same ?_
  rw [pkn_q hf hg hs' hb (by omega) (by omega) h0 h1 h2 h3 h7 h4] at hl ⊢
  rw [q_shr (by omega) hl, h4, nI_l (by omega)]
  congr 1
  omega
theorem so_times (hA : A < 2048) (q : qk S A k) : lg_cmp (S (iK k 7)).toInt64 (lN (pkn S k) >>> ((nI 13).toInt64 &&& 63) &&& 2047) = 0 := by
  have hl := (qk_lt hA q).1
  obtain ⟨f, g, s', b, u, a, x, y, hf, hg, hs', hb, hu, ha, hx, hy, q1, q2, q3, h0, h1, h2, h3, h7, h4, h5, h6⟩ := q
  refine lg_cmp_same ?_
  rw [pkn_q hf hg hs' hb (by omega) (by omega) h0 h1 h2 h3 h7 h4] at hl ⊢
  rw [q_shr (by omega) hl, show (2047 : Int64) = lN (2048 - 1) from rfl, g_mask (s := 11) rfl (by omega) (by have : ∀ z, z / 2 ^ 13 ≤ z := fun z => Nat.div_le_self _ _; have := this (f + 16 * g + 256 * s' + 1024 * b + 8192 * u + 16777216 * a); omega), h7, nI_l (by omega)]
  congr 1
  omega
theorem so_fog (hn : n ≤ 40) (hk : k < n) (h : sp_first S k) : sp_fog S (nI (sp_groups S k)) n = nI k := sp_fog_at h rfl n hk hn
theorem so_group (hn : n ≤ 40) (hk : k < n) (h : sp_first S k) {y : Nat} (hy : y ≤ 3) : pa_group S n (nI (sp_groups S k)) (nI y) = (if y = 0 then S (iK k 0) else if y = 1 then S (iK k 1) else if y = 2 then sp_size S k n else nI k) := by
  have hg := sp_groups_le (M := S) k
  unfold pa_group
  rw [if_pos ⟨nI_pos (by omega), inr_n (by omega) hy (by omega)⟩, so_fog hn hk h, show cN (nI k) = k from nI_clamp (by omega)]
  rcases (show y = 0 ∨ y = 1 ∨ y = 2 ∨ y = 3 by omega) with e | e | e | e <;> subst e
  · rw [if_neg (fun z => z.elim (n9 (by omega)) (by decide)), if_neg (by decide), if_pos rfl]; rfl
  · rw [if_neg (fun z => z.elim (n9 (by omega)) (by decide)), if_neg (by decide), if_neg (by decide), if_pos rfl]; rfl
  · rw [if_neg (fun z => z.elim (n9 (by omega)) (by decide)), if_pos rfl]; rfl
  · rw [if_pos (Or.inr rfl)]; rfl
theorem so_fog_end {i : Nat} (hi : i < 2 ^ 31) (hn : n ≤ 40) : ∀ k, k ≤ n → sp_groups S k ≤ i → sp_fog S (nI i) k = -9 := by
  intro k
  induction k with
  | zero => intro _ _; rfl
  | succ k ih =>
    intro hk h
    have h1 := sp_groups_le (M := S) k
    simp only [sp_groups] at h
    simp only [sp_fog]
    by_cases q : sp_first S k
    · rw [if_pos q] at h
      rw [if_neg (fun z => by have := (nI_eq (by omega) (by omega)).mp z.2; omega)]
      exact ih (by omega) (by omega)
    · rw [if_neg q] at h
      rw [if_neg (fun z => q z.1)]
      exact ih (by omega) h
theorem so_group_end (hn : n ≤ 40) : pa_group S n (nI (sp_groups S n)) (nI 0) = -9 := by
  have hg := sp_groups_le (M := S) n
  have e := so_fog_end (S := S) (i := sp_groups S n) (by omega) hn n (Nat.le_refl _) (Nat.le_refl _)
  unfold pa_group
  rw [if_pos ⟨nI_pos (by omega), inr_n (by omega) (by omega) (by omega)⟩, e, if_pos (Or.inl rfl)]
theorem so_group_m : pa_group S n (-1) (nI 0) = -1 := by
  unfold pa_group
  rw [if_neg (fun z => z.1 (by decide))]
theorem so_group_4 : pa_group S n (nI 0) (nI 4) = -1 := by
  unfold pa_group
  rw [if_neg (fun z => z.2.2 (by decide))]
theorem so_cnt {i : Nat} (hi : i ≤ 13) : pa_tab 13 (pc_count S n m t p) (nI i) = pc_count S n m t p i := pa_tab_in (by omega) hi
theorem so_cnt4 {i : Nat} (hi : i < 4) : pa_tab 13 (pc_count S n m t p) (nI (4 + i)) = sp_in S (nI i) n := by
  rw [so_cnt (by omega)]
  rcases (show i = 0 ∨ i = 1 ∨ i = 2 ∨ i = 3 by omega) with e | e | e | e <;> subst e <;> rfl
end SO
