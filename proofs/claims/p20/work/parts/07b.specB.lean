theorem sp_free {p r q : Nat} (hp : p ≤ 100) (hr : r ≤ 100) (hq : q ≤ 100) : (nI p - nI r ≤ nI q) ↔ nI p ≤ nI (r + q) := by
  rw [Int32.le_iff_toInt_le, Int32.le_iff_toInt_le, pk_sub_toInt (by omega) (by omega), nI_toInt (by omega), nI_toInt (by omega), nI_toInt (by omega)]
  omega
theorem sp_free' {M : Nat → Int32} {c fl pl tk : Int32} {n p k : Nat} (hn : n ≤ 40) (hp : p ≤ 8) (hpl : pl = nI p) (hk : k ≤ n) : (pl - sp_of M c (nI 2) n ≤ nI (sp_takn M c fl pl tk n k)) ↔ pl ≤ sp_of (sp_tak M c fl pl tk n k) c (nI 2) n := by
  have h1 := sp_ofN_le (M := M) (c := c) (is := nI 2) n
  have h2 := sp_takn_le (M := M) (c := c) (fl := fl) (pl := pl) (tk := tk) (n := n) k
  have h3 := sp_tak_of (M := M) (c := c) (fl := fl) (pl := pl) (tk := tk) (n := n) k hk
  rw [sp_of_N, sp_of_N, h3]
  generalize sp_takn M c fl pl tk n k = q at h2 ⊢
  rw [hpl]
  exact sp_free (by omega) (by omega) (by omega)
/-- is there anybody to let out, to take -/
def sp_isO (M : Nat → Int32) (c fl : Int32) : Nat → Bool
  | 0 => false
  | k + 1 => sp_isO M c fl k || decide (sp_rd M k c ∧ M (iK k 1) = fl)
def sp_isT (M : Nat → Int32) (c fl : Int32) : Nat → Bool
  | 0 => false
  | k + 1 => sp_isT M c fl k || decide (sp_wt M k c ∧ M (iK k 0) = fl)
abbrev sp_isStop (M : Nat → Int32) (c fl pl : Int32) (n : Nat) : Prop := sp_isO M c fl n = true ∨ (sp_isT M c fl n = true ∧ ¬ pl ≤ sp_of M c (nI 2) n)
theorem sp_isO_out {M : Nat → Int32} {c fl tk : Int32} : ∀ k, (sp_isO M c fl k = false ∧ sp_outs M c fl tk k = M ∧ sp_outn M c fl tk k = 0) ∨ (sp_isO M c fl k = true ∧ 0 < sp_outn M c fl tk k) := by
  intro k
  induction k with
  | zero => exact Or.inl ⟨rfl, rfl, rfl⟩
  | succ k ih =>
    simp only [sp_isO, sp_outs, sp_outn]
    rcases ih with ⟨h1, h2, h3⟩ | ⟨h1, h2⟩
    · rw [h1, h2, h3]
      by_cases hc : sp_rd M k c ∧ M (iK k 1) = fl
      · right
        rw [if_pos hc, decide_eq_true hc]
        exact ⟨rfl, by omega⟩
      · left
        rw [if_neg hc, if_neg hc, decide_eq_false hc]
        exact ⟨rfl, rfl, rfl⟩
    · right
      rw [h1]
      exact ⟨rfl, by split <;> omega⟩
theorem sp_isT_tak {M : Nat → Int32} {c fl pl tk : Int32} {n : Nat} (hp : ¬ pl ≤ sp_of M c (nI 2) n) : ∀ k, (sp_isT M c fl k = false ∧ sp_tak M c fl pl tk n k = M ∧ sp_takn M c fl pl tk n k = 0) ∨ (sp_isT M c fl k = true ∧ 0 < sp_takn M c fl pl tk n k) := by
  intro k
  induction k with
  | zero => exact Or.inl ⟨rfl, rfl, rfl⟩
  | succ k ih =>
    simp only [sp_isT, sp_tak, sp_takn]
    rcases ih with ⟨h1, h2, h3⟩ | ⟨h1, h2⟩
    · rw [h1, h2, h3]
      by_cases hc : sp_wt M k c ∧ M (iK k 0) = fl
      · right
        rw [if_pos ⟨hc.1, hc.2, hp⟩, decide_eq_true hc]
        exact ⟨rfl, by omega⟩
      · left
        rw [if_neg (fun q => hc ⟨q.1, q.2.1⟩), if_neg (fun q => hc ⟨q.1, q.2.1⟩), decide_eq_false hc]
        exact ⟨rfl, rfl, rfl⟩
    · right
      rw [h1]
      exact ⟨rfl, by split <;> omega⟩
/-- the memory behind letting out and taking; a stop -/
def sp_two (M : Nat → Int32) (c fl pl tk : Int32) (n : Nat) : Nat → Int32 := sp_tak (sp_outs M c fl tk n) c fl pl tk n n
def sp_twon (M : Nat → Int32) (c fl pl tk : Int32) (n : Nat) : Nat := sp_outn M c fl tk n + sp_takn (sp_outs M c fl tk n) c fl pl tk n n
theorem sp_two_no {M : Nat → Int32} {c fl pl tk : Int32} {n : Nat} (h : ¬ sp_isStop M c fl pl n) : sp_two M c fl pl tk n = M ∧ sp_twon M c fl pl tk n = 0 := by
  unfold sp_two sp_twon
  rcases sp_isO_out (M := M) (c := c) (fl := fl) (tk := tk) n with ⟨h1, h2, h3⟩ | ⟨h1, -⟩
  · rw [h2, h3]
    by_cases hp : pl ≤ sp_of M c (nI 2) n
    · have := sp_tak_full (M := M) (c := c) (fl := fl) (pl := pl) (tk := tk) (n := n) (k := 0) hp n
      rw [Nat.zero_add] at this
      rw [this.1, this.2]
      exact ⟨rfl, rfl⟩
    · rcases sp_isT_tak (M := M) (c := c) (fl := fl) (tk := tk) hp n with ⟨g1, g2, g3⟩ | ⟨g1, -⟩
      · rw [g2, g3]; exact ⟨rfl, rfl⟩
      · exact absurd (Or.inr ⟨g1, hp⟩) h
  · exact absurd (Or.inl h1) h
theorem sp_two_yes {M : Nat → Int32} {c fl pl tk : Int32} {n : Nat} (h : sp_isStop M c fl pl n) : 0 < sp_twon M c fl pl tk n := by
  unfold sp_twon
  rcases sp_isO_out (M := M) (c := c) (fl := fl) (tk := tk) n with ⟨h1, h2, h3⟩ | ⟨h1, h2⟩
  · rw [h2, h3]
    rcases h with h | ⟨h, hp⟩
    · rw [h1] at h; cases h
    · rcases sp_isT_tak (M := M) (c := c) (fl := fl) (tk := tk) hp n with ⟨g1, -, -⟩ | ⟨-, g2⟩
      · rw [g1] at h; cases h
      · omega
  · omega
/-- a car travels towards its aim -/
def sp_trav (M : Nat → Int32) (c : Nat) (a : Int32) : Nat → Int32 := upd (upd M (iC c 3) (M (iC c 3) + (if a ≤ M (iC c 3) then -1 else nI 1))) (iC c 5) (M (iC c 5) + nI 1)
def sp_stop (M : Nat → Int32) (c t n : Nat) : Nat → Int32 :=
  if sp_isStop M (nI c) (M (iC c 3)) (M (iC c 2)) n then upd (sp_two M (nI c) (M (iC c 3)) (M (iC c 2)) (nI t) n) 3 (sp_two M (nI c) (M (iC c 3)) (M (iC c 2)) (nI t) n 3 + nI 1)
  else if sp_aim M (nI c) (M (iC c 3)) n = -9 then M else sp_trav M c (sp_aim M (nI c) (M (iC c 3)) n)
/-- the aim isn't where the car is, if it doesn't stop -/
theorem sp_aims_in {M : Nat → Int32} {c fl : Int32} : ∀ k, ((sp_aims M c fl k).1 = -9 ∨ ∃ j, j < k ∧ sp_rd M j c ∧ M (iK j 1) = (sp_aims M c fl k).1) ∧ ((sp_aims M c fl k).2 = -9 ∨ ∃ j, j < k ∧ sp_wt M j c ∧ M (iK j 0) = (sp_aims M c fl k).2) := by
  intro k
  induction k with
  | zero => exact ⟨Or.inl rfl, Or.inl rfl⟩
  | succ k ih =>
    have up1 : (sp_aims M c fl k).1 = -9 ∨ ∃ j, j < k + 1 ∧ sp_rd M j c ∧ M (iK j 1) = (sp_aims M c fl k).1 := ih.1.imp id (fun ⟨j, a, b⟩ => ⟨j, by omega, b⟩)
    have up2 : (sp_aims M c fl k).2 = -9 ∨ ∃ j, j < k + 1 ∧ sp_wt M j c ∧ M (iK j 0) = (sp_aims M c fl k).2 := ih.2.imp id (fun ⟨j, a, b⟩ => ⟨j, by omega, b⟩)
    simp only [sp_aims]
    split
    · rename_i hr
      refine ⟨?_, up2⟩
      split
      · exact Or.inr ⟨k, by omega, hr, rfl⟩
      · exact up1
    · split
      · rename_i hw
        exact ⟨up1, Or.inr ⟨k, by omega, hw.2, rfl⟩⟩
      · exact ⟨up1, up2⟩
theorem sp_isO_t {M : Nat → Int32} {c fl : Int32} {j : Nat} (h : sp_rd M j c ∧ M (iK j 1) = fl) : ∀ n, j < n → sp_isO M c fl n = true := by
  intro n
  induction n with
  | zero => intro q; omega
  | succ n ih =>
    intro hj
    simp only [sp_isO]
    by_cases e : j = n
    · subst e; rw [decide_eq_true h]; simp
    · rw [ih (by omega)]; rfl
theorem sp_isT_t {M : Nat → Int32} {c fl : Int32} {j : Nat} (h : sp_wt M j c ∧ M (iK j 0) = fl) : ∀ n, j < n → sp_isT M c fl n = true := by
  intro n
  induction n with
  | zero => intro q; omega
  | succ n ih =>
    intro hj
    simp only [sp_isT]
    by_cases e : j = n
    · subst e; rw [decide_eq_true h]; simp
    · rw [ih (by omega)]; rfl
/-- nobody rides: nobody counts -/
theorem sp_aims_of {M : Nat → Int32} {c fl : Int32} {n : Nat} (hg : ∀ k, k < n → sp_fl (M (iK k 1))) : ∀ k, k ≤ n → (sp_aims M c fl k).1 = -9 → sp_ofN M c (nI 2) k = 0 := by
  intro k
  induction k with
  | zero => intro _ _; rfl
  | succ k ih =>
    intro hk h
    simp only [sp_aims] at h
    simp only [sp_ofN]
    by_cases hr : sp_rd M k c
    · rw [if_pos hr] at h
      exfalso
      obtain ⟨f, hf, e⟩ := hg k (by omega)
      dsimp only at h
      split at h
      · rw [e] at h
        exact absurd h ((by decide +kernel : ∀ f, f < 16 → nI f ≠ -9) f hf)
      · rename_i q
        exact q (Or.inl h)
    · rw [if_neg hr] at h ⊢
      split at h
      · exact ih (by omega) h
      · exact ih (by omega) h
theorem sp_trav_fl0 : ∀ f, f < 16 → ∀ a, a < 16 → a ≠ f → ∃ g, g < 16 ∧ nI f + (if nI a ≤ nI f then -1 else nI 1) = nI g := by
  intro f hf a ha hne
  by_cases h : a ≤ f
  · refine ⟨f - 1, by omega, ?_⟩
    rw [if_pos (nI_le h (by omega))]
    obtain ⟨g, rfl⟩ : ∃ g, f = g + 1 := ⟨f - 1, by omega⟩
    exact pk_m1 g
  · refine ⟨f + 1, by omega, ?_⟩
    rw [if_neg (nI_ge (by omega) (by omega))]
    exact nI_1 f
theorem sp_aim_ne {n m t : Nat} {M : Nat → Int32} (w : sp_W n m t M) {c : Nat} (hc : c < m) (hs : ¬ sp_isStop M (nI c) (M (iC c 3)) (M (iC c 2)) n) (ha : sp_aim M (nI c) (M (iC c 3)) n ≠ -9) : sp_fl (sp_aim M (nI c) (M (iC c 3)) n) ∧ sp_aim M (nI c) (M (iC c 3)) n ≠ M (iC c 3) := by
  have hg : ∀ k, k < n → sp_fl (M (iK k 1)) := fun k hk => (w.2.2.2.2.2.2 k hk).2.1
  obtain ⟨h1, h2⟩ := sp_aims_in (M := M) (c := nI c) (fl := M (iC c 3)) n
  unfold sp_aim at ha ⊢
  split at ha
  · rename_i h0
    rw [if_pos h0]
    rcases h2 with h2 | ⟨j, hj, hw, e⟩
    · exact absurd h2 ha
    · refine ⟨by rw [← e]; exact (w.2.2.2.2.2.2 j hj).1, fun q => hs (Or.inr ⟨sp_isT_t ⟨hw, e.trans q⟩ n hj, ?_⟩)⟩
      have := sp_aims_of hg n (Nat.le_refl _) h0
      obtain ⟨-, -, -, p, p1, p2, p3⟩ := w.2.2.2.2.2.1 c hc
      rw [sp_of_N, this, p3]
      exact nI_ge (by omega) (by omega)
  · rename_i h0
    rw [if_neg h0]
    rcases h1 with h1 | ⟨j, hj, hr, e⟩
    · exact absurd h1 h0
    · exact ⟨by rw [← e]; exact (w.2.2.2.2.2.2 j hj).2.1, fun q => hs (Or.inl (sp_isO_t ⟨hr, e.trans q⟩ n hj))⟩
theorem rC {M : Nat → Int32} {k v w : Nat} {x : Int32} (hv : v < 6) (hw : w < 6) (h : v ≠ w) : upd M (iC k w) x (iC k v) = M (iC k v) := gl_upd_ne (iC_ne hv hw (fun q => h q.2))
theorem sp_stop_W {n m t : Nat} {M : Nat → Int32} (w : sp_W n m t M) {c : Nat} (hc : c < m) : sp_W n m t (sp_stop M c t n) := by
  unfold sp_stop
  split
  · exact sp_W_3 (sp_tak_W (sp_outs_W w n (Nat.le_refl _)) n (Nat.le_refl _)) _
  · split
    · exact w
    · rename_i hs ha
      obtain ⟨f1, f2⟩ := sp_aim_ne w hc hs ha
      obtain ⟨c1, c2, ⟨f, hf, ef⟩, c4⟩ := w.2.2.2.2.2.1 c hc
      have hm5 := w.2.1
      unfold sp_trav
      refine sp_W_C w c (by omega) (fun i hi => ?_) ?_
      · rw [oC (by omega) hi, oC (by omega) hi]
      · unfold sp_car
        simp only [rC (k := c) (v := 0) (w := 5) (by omega) (by omega) (by omega), rC (k := c) (v := 0) (w := 3) (by omega) (by omega) (by omega), rC (k := c) (v := 1) (w := 5) (by omega) (by omega) (by omega), rC (k := c) (v := 1) (w := 3) (by omega) (by omega) (by omega), rC (k := c) (v := 3) (w := 5) (by omega) (by omega) (by omega), gl_upd_eq, rC (k := c) (v := 2) (w := 5) (by omega) (by omega) (by omega), rC (k := c) (v := 2) (w := 3) (by omega) (by omega) (by omega)]
        refine ⟨c1, c2, ?_, c4⟩
        obtain ⟨a, ha, ea⟩ := f1
        rw [ea] at f2 ⊢
        rw [ef] at f2 ⊢
        exact sp_trav_fl0 f hf a ha (fun q => f2 (by rw [q]))
/-- the cars that are ready are gone through -/
def sp_cars (M : Nat → Int32) (t n : Nat) : Nat → Nat → Int32
  | 0 => M
  | c + 1 => if sp_cars M t n c (iC c 4) = 0 then sp_stop (sp_cars M t n c) c t n else sp_cars M t n c
theorem sp_cars_W {n m t : Nat} {M : Nat → Int32} (w : sp_W n m t M) : ∀ c, c ≤ m → sp_W n m t (sp_cars M t n c) := by
  intro c
  induction c with
  | zero => intro _; exact w
  | succ c ih =>
    intro hc
    simp only [sp_cars]
    split
    · exact sp_stop_W (ih (by omega)) (by omega)
    · exact ih (by omega)
/-- a tick -/
def sp_tick (M : Nat → Int32) (t n m : Nat) : Nat → Int32 := upd (sp_cars (sp_look M t n m n) t n m) 0 (sp_cars (sp_look M t n m n) t n m 0 + nI 1)
theorem sp_tick_W {n m t : Nat} {M : Nat → Int32} (w : sp_W n m t M) : sp_W n m (t + 1) (sp_tick M t n m) := sp_W_0 (sp_cars_W (sp_look_W w n (Nat.le_refl _)) m (Nat.le_refl _))
/-- ticks -/
def sp_run (M : Nat → Int32) (t n m : Nat) : Nat → Nat → Int32
  | 0 => M
  | j + 1 => sp_tick (sp_run M t n m j) (t + j) n m
theorem sp_run_W {n m t : Nat} {M : Nat → Int32} (w : sp_W n m t M) : ∀ j, sp_W n m (t + j) (sp_run M t n m j) := by
  intro j
  induction j with
  | zero => exact w
  | succ j ih => exact sp_tick_W ih
