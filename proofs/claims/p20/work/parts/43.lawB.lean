/-! ===== the cost and the choice ===== -/
theorem lg_le_lt {x y z : Int32} (h1 : x < y) (h2 : y < z) : x < z := Int32.lt_trans h1 h2
/-- both floors in the zone, by the smaller and the greater -/
theorem lg_sv1 {S : Nat → Int32} {c : Nat} {f g : Int32} (h : f < g) : (¬ f < S (iC c 0) ∧ ¬ S (iC c 1) < g) ↔ (sp_serves S c f ∧ sp_serves S c g) := by
  simp only [sp_serves, Int32.lt_iff_toInt_lt] at h ⊢
  omega
theorem lg_sv2 {S : Nat → Int32} {c : Nat} {f g : Int32} (h : ¬ f < g) : (¬ g < S (iC c 0) ∧ ¬ S (iC c 1) < f) ↔ (sp_serves S c f ∧ sp_serves S c g) := by
  simp only [sp_serves, Int32.lt_iff_toInt_lt] at h ⊢
  omega
theorem lg_cost_v {S : Nat → Int32} {c n : Nat} {f g : Int32} : sp_far (S (iC c 3)) f + nI 2 * sp_pop (sp_stops S (nI c) n ||| (nI 1 <<< (f &&& 31) ||| nI 1 <<< (g &&& 31))) + sp_of S (nI c) (nI 1) n + sp_of S (nI c) (nI 2) n = sp_cost S c f g n := by
  unfold sp_cost sp_bits sp_with
  rw [Int32.or_assoc, Int32.add_assoc]
abbrev lg_its (S : Nat → Int32) (t n c : Nat) (f g : Int32) : Int32 := if sp_can S t c f g then sp_cost S c f g n else -9
/-- a number of sixteen bits has at most sixteen ones -/
theorem sp_ones_N {x : Int32} : ∀ k, k ≤ 32 → ∃ j, j ≤ k ∧ sp_ones x k = nI j := by
  intro k
  induction k with
  | zero => intro _; exact ⟨0, Nat.le_refl _, rfl⟩
  | succ k ih =>
    intro hk
    obtain ⟨j, hj, e⟩ := ih (by omega)
    have hb : ∀ y : Int32, y &&& nI 1 = nI 0 ∨ y &&& nI 1 = nI 1 := fun y => by
      have e2 : (y &&& nI 1).toBitVec = BitVec.ofNat 32 (y.toBitVec.toNat % 2) := by
        rw [Int32.toBitVec_and]
        apply BitVec.eq_of_toNat_eq
        rw [BitVec.toNat_and, BitVec.toNat_ofNat, show (nI 1).toBitVec.toNat = 1 from rfl, Nat.and_one_is_mod]
        omega
      rcases (show y.toBitVec.toNat % 2 = 0 ∨ y.toBitVec.toNat % 2 = 1 by omega) with h | h
      · left; apply Int32.toBitVec_inj.1; rw [e2, h]; rfl
      · right; apply Int32.toBitVec_inj.1; rw [e2, h]; rfl
    simp only [sp_ones]
    rcases hb (x >>> (nI k &&& 31)) with h | h
    · exact ⟨j, by omega, by rw [h, e, nI_add, Nat.add_zero]⟩
    · exact ⟨j + 1, by omega, by rw [h, e, nI_add]⟩
theorem sp_cost_N {n m t : Nat} {S : Nat → Int32} (w : sp_W n m t S) {c : Nat} (hc : c < m) {f g : Int32} (hf : sp_fl f) : ∃ j, j ≤ 1000 ∧ sp_cost S c f g n = nI j := by
  obtain ⟨hn40, hm5, hn, hm, ht, hcar, hcal⟩ := w
  obtain ⟨d, hd, e1⟩ := sp_far_N (hcar c hc).2.2.1 hf
  obtain ⟨o, ho, e2⟩ := sp_ones_N (x := sp_bits S (nI c) f g n) 16 (by omega)
  have h1 := sp_ofN_le (M := S) (c := nI c) (is := nI 1) n
  have h2 := sp_ofN_le (M := S) (c := nI c) (is := nI 2) n
  refine ⟨d + 2 * o + (sp_ofN S (nI c) (nI 1) n + sp_ofN S (nI c) (nI 2) n), by omega, ?_⟩
  unfold sp_cost sp_pop sp_with
  rw [e1, e2, sp_of_N, sp_of_N, pk_mul, nI_add, nI_add, nI_add]
/-- the choice from the last car down: the car, its cost -/
def lg_wh (S : Nat → Int32) (t n m : Nat) (f g : Int32) : Nat → Int32 × Int32
  | 0 => (-9, nI 9999)
  | j + 1 => if ¬ lg_its S t n (m - 1 - j) f g < 0 ∧ ¬ (lg_wh S t n m f g j).2 < lg_its S t n (m - 1 - j) f g then (nI (m - 1 - j), lg_its S t n (m - 1 - j) f g) else lg_wh S t n m f g j
/-- p: none can be given among lo .. hi - 1, or c is the first of the least cost -/
def lg_min (S : Nat → Int32) (t n : Nat) (f g : Int32) (lo hi : Nat) (r : Int32) : Prop := (r = -9 ∧ ∀ d, lo ≤ d → d < hi → ¬ sp_can S t d f g) ∨ ∃ c, lo ≤ c ∧ c < hi ∧ r = nI c ∧ sp_can S t c f g ∧ (∀ d, lo ≤ d → d < hi → sp_can S t d f g → (sp_cost S c f g n).toInt ≤ (sp_cost S d f g n).toInt) ∧ ∀ d, lo ≤ d → d < c → sp_can S t d f g → (sp_cost S c f g n).toInt < (sp_cost S d f g n).toInt
theorem lg_min_one {S : Nat → Int32} {t n : Nat} {f g : Int32} {lo hi : Nat} {r r' : Int32} (h : lg_min S t n f g lo hi r) (h' : lg_min S t n f g lo hi r') : r = r' := by
  rcases h with ⟨e, h⟩ | ⟨c, a1, a2, e, a3, a4, a5⟩
  · rcases h' with ⟨e', h'⟩ | ⟨c', b1, b2, e', b3, b4, b5⟩
    · rw [e, e']
    · exact absurd b3 (h c' b1 b2)
  · rcases h' with ⟨e', h'⟩ | ⟨c', b1, b2, e', b3, b4, b5⟩
    · exact absurd a3 (h' c a1 a2)
    · have e1 := a4 c' b1 b2 b3
      have e2 := b4 c a1 a2 a3
      have : c = c' := by
        rcases Nat.lt_trichotomy c c' with q | q | q
        · have := b5 c a1 q a3; omega
        · exact q
        · have := a5 c' b1 q b3; omega
      rw [e, e', this]
theorem lg_best_min {n m t : Nat} {S : Nat → Int32} (w : sp_W n m t S) {f g : Int32} (hf : sp_fl f) : ∀ c, c ≤ m → lg_min S t n f g 0 c (sp_best S t f g n c).1 ∧ ((sp_best S t f g n c).1 = -9 ∨ ∃ d, (sp_best S t f g n c).1 = nI d ∧ d < c ∧ (sp_best S t f g n c).2 = sp_cost S d f g n) := by
  have hm5 := w.2.1
  intro c
  induction c with
  | zero => intro _; exact ⟨Or.inl ⟨rfl, fun d _ h => absurd h (by omega)⟩, Or.inl rfl⟩
  | succ c ih =>
    intro hc
    obtain ⟨h, h2⟩ := ih (by omega)
    simp only [sp_best]
    by_cases q : sp_can S t c f g ∧ ((sp_best S t f g n c).1 = -9 ∨ ¬ (sp_best S t f g n c).2 ≤ sp_cost S c f g n)
    · rw [if_pos q]
      refine ⟨Or.inr ⟨c, by omega, by omega, rfl, q.1, fun d _ hd hcan => ?_, fun d _ hd hcan => ?_⟩, Or.inr ⟨c, rfl, by omega, rfl⟩⟩
      · rcases h with ⟨e, h⟩ | ⟨c', b1, b2, e', b3, b4, b5⟩
        · by_cases hdc : d = c
          · rw [hdc]; exact Int.le_refl _
          · exact absurd hcan (h d (by omega) (by omega))
        · by_cases hdc : d = c
          · rw [hdc]; exact Int.le_refl _
          · have h3 := b4 d (by omega) (by omega) hcan
            rcases q.2 with q2 | q2
            · exact absurd (e'.symm.trans q2) (n9 (by omega))
            · rcases h2 with h2 | ⟨d', e2, hd', e3⟩
              · exact absurd (e'.symm.trans h2) (n9 (by omega))
              · have : c' = d' := (nI_eq (by omega) (by omega)).mp (e'.symm.trans e2)
                subst this
                rw [e3, Int32.le_iff_toInt_le] at q2
                omega
      · rcases h with ⟨e, h⟩ | ⟨c', b1, b2, e', b3, b4, b5⟩
        · exact absurd hcan (h d (by omega) (by omega))
        · have h3 := b4 d (by omega) (by omega) hcan
          rcases q.2 with q2 | q2
          · exact absurd (e'.symm.trans q2) (n9 (by omega))
          · rcases h2 with h2 | ⟨d', e2, hd', e3⟩
            · exact absurd (e'.symm.trans h2) (n9 (by omega))
            · have : c' = d' := (nI_eq (by omega) (by omega)).mp (e'.symm.trans e2)
              subst this
              rw [e3, Int32.le_iff_toInt_le] at q2
              omega
    · rw [if_neg q]
      refine ⟨?_, h2.imp id (fun ⟨d, a, b, e⟩ => ⟨d, a, by omega, e⟩)⟩
      rcases h with ⟨e, h⟩ | ⟨c', b1, b2, e', b3, b4, b5⟩
      · refine Or.inl ⟨e, fun d _ hd hcan => ?_⟩
        by_cases hdc : d = c
        · subst hdc
          exact q ⟨hcan, Or.inl e⟩
        · exact h d (by omega) (by omega) hcan
      · refine Or.inr ⟨c', b1, by omega, e', b3, fun d _ hd hcan => ?_, b5⟩
        by_cases hdc : d = c
        · subst hdc
          rcases h2 with h2 | ⟨d', e2, hd', e3⟩
          · exact absurd (e'.symm.trans h2) (n9 (by omega))
          · have : c' = d' := (nI_eq (by omega) (by omega)).mp (e'.symm.trans e2)
            subst this
            have q3 := Classical.not_not.mp (fun z => q ⟨hcan, Or.inr z⟩)
            rw [e3, Int32.le_iff_toInt_le] at q3
            exact q3
        · exact b4 d (by omega) (by omega) hcan
theorem lg_its_0 {n m t : Nat} {S : Nat → Int32} (w : sp_W n m t S) {c : Nat} (hc : c < m) {f g : Int32} (hf : sp_fl f) : (¬ lg_its S t n c f g < 0 ↔ sp_can S t c f g) ∧ (sp_can S t c f g → lg_its S t n c f g = sp_cost S c f g n ∧ (sp_cost S c f g n).toInt ≤ 1000) := by
  obtain ⟨j, hj, e⟩ := sp_cost_N w hc hf (g := g)
  by_cases q : sp_can S t c f g
  · have e2 : lg_its S t n c f g = sp_cost S c f g n := if_pos q
    rw [e2, e, nI_toInt (by omega)]
    exact ⟨⟨fun _ => q, fun _ => nI_pos (by omega)⟩, fun _ => ⟨rfl, by omega⟩⟩
  · have e2 : lg_its S t n c f g = -9 := if_neg q
    rw [e2]
    exact ⟨⟨fun z => absurd (by decide) z, fun z => absurd z q⟩, fun z => absurd z q⟩
theorem lg_wh_min {n m t : Nat} {S : Nat → Int32} (w : sp_W n m t S) {f g : Int32} (hf : sp_fl f) : ∀ j, j ≤ m → lg_min S t n f g (m - j) m (lg_wh S t n m f g j).1 ∧ (((lg_wh S t n m f g j).1 = -9 ∧ (lg_wh S t n m f g j).2 = nI 9999) ∨ ∃ d, (lg_wh S t n m f g j).1 = nI d ∧ d < m ∧ (lg_wh S t n m f g j).2 = sp_cost S d f g n) := by
  have hm5 := w.2.1
  intro j
  induction j with
  | zero => intro _; exact ⟨Or.inl ⟨rfl, fun d h1 h2 => absurd h2 (by omega)⟩, Or.inl ⟨rfl, rfl⟩⟩
  | succ j ih =>
    intro hj
    obtain ⟨h, h2⟩ := ih (by omega)
    obtain ⟨c, hcm⟩ : ∃ c, c = m - 1 - j := ⟨_, rfl⟩
    have e0 : m - (j + 1) = c := by omega
    have e1 : m - j = c + 1 := by omega
    obtain ⟨i1, i2⟩ := lg_its_0 w (show c < m by omega) hf (g := g)
    simp only [lg_wh]
    rw [← hcm, e0]
    rw [e1] at h
    have k9 : (nI 9999).toInt = 9999 := nI_toInt (by omega)
    by_cases q : ¬ lg_its S t n c f g < 0 ∧ ¬ (lg_wh S t n m f g j).2 < lg_its S t n c f g
    · rw [if_pos q]
      have hcan := i1.mp q.1
      obtain ⟨i3, i4⟩ := i2 hcan
      have q2 := q.2
      rw [i3, Int32.lt_iff_toInt_lt] at q2
      rw [i3]
      refine ⟨Or.inr ⟨c, by omega, by omega, rfl, hcan, fun d hd1 hd2 hd3 => ?_, fun d hd1 hd2 _ => by omega⟩, Or.inr ⟨c, rfl, by omega, rfl⟩⟩
      by_cases hdc : d = c
      · rw [hdc]; exact Int.le_refl _
      · rcases h with ⟨e, h⟩ | ⟨c', b1, b2, e', b3, b4, b5⟩
        · exact absurd hd3 (h d (by omega) hd2)
        · have h3 := b4 d (by omega) hd2 hd3
          rcases h2 with ⟨h2, -⟩ | ⟨d', e2, hd', e3⟩
          · exact absurd (e'.symm.trans h2) (n9 (by omega))
          · have : c' = d' := (nI_eq (by omega) (by omega)).mp (e'.symm.trans e2)
            subst this
            rw [e3] at q2
            omega
    · rw [if_neg q]
      refine ⟨?_, h2⟩
      rcases h with ⟨e, h⟩ | ⟨c', b1, b2, e', b3, b4, b5⟩
      · refine Or.inl ⟨e, fun d hd1 hd2 hd3 => ?_⟩
        by_cases hdc : d = c
        · subst hdc
          obtain ⟨i3, i4⟩ := i2 hd3
          rcases h2 with ⟨-, h2⟩ | ⟨d', e2, hd', e3⟩
          · refine q ⟨i1.mpr hd3, ?_⟩
            rw [h2, i3, Int32.lt_iff_toInt_lt, k9]
            omega
          · exact absurd (e2.symm.trans e) (n9 (by omega))
        · exact h d (by omega) hd2 hd3
      · rcases h2 with ⟨h2, -⟩ | ⟨d', e2, hd', e3⟩
        · exact absurd (e'.symm.trans h2) (n9 (by omega))
        have : c' = d' := (nI_eq (by omega) (by omega)).mp (e'.symm.trans e2)
        subst this
        have key : sp_can S t c f g → (sp_cost S c' f g n).toInt < (sp_cost S c f g n).toInt := fun hcan => by
          obtain ⟨i3, i4⟩ := i2 hcan
          have q3 := Classical.not_not.mp (fun z => q ⟨i1.mpr hcan, z⟩)
          rw [e3, i3, Int32.lt_iff_toInt_lt] at q3
          exact q3
        refine Or.inr ⟨c', by omega, b2, e', b3, fun d hd1 hd2 hd3 => ?_, fun d hd1 hd2 hd3 => ?_⟩
        · by_cases hdc : d = c
          · subst hdc; exact Int.le_of_lt (key hd3)
          · exact b4 d (by omega) hd2 hd3
        · by_cases hdc : d = c
          · subst hdc; exact key hd3
          · exact b5 d (by omega) hd2 hd3
theorem lg_wh_ok {n m t : Nat} {S : Nat → Int32} (w : sp_W n m t S) {f g : Int32} (hf : sp_fl f) : (lg_wh S t n m f g m).1 = (sp_best S t f g n m).1 := by
  have h1 := (lg_wh_min w hf (g := g) m (Nat.le_refl _)).1
  rw [Nat.sub_self] at h1
  exact lg_min_one h1 (lg_best_min w hf m (Nat.le_refl _)).1
/-- a number that runs down to -1 -/
def lg_dn (m j : Nat) : Int32 := if j < m then nI (m - 1 - j) else -1
theorem lg_dn_lt {m j : Nat} (h : j < m) : lg_dn m j = nI (m - 1 - j) := if_pos h
theorem lg_dn_m {m : Nat} : lg_dn m m = -1 := if_neg (by omega)
theorem lg_dn_0 {m : Nat} : nI m - nI 1 = lg_dn m 0 := by
  cases m with
  | zero => decide
  | succ m => rw [lg_dn_lt (by omega), pk_sub (by omega)]; rfl
theorem lg_dn_s {m j : Nat} (h : j < m) : nI (m - 1 - j) + Int32.ofInt (-1) = lg_dn m (j + 1) := by
  by_cases q : j + 1 < m
  · rw [lg_dn_lt q, show m - 1 - j = (m - 1 - (j + 1)) + 1 by omega]
    exact pk_m1 _
  · rw [show m - 1 - j = 0 by omega]
    unfold lg_dn
    rw [if_neg q]
    decide
