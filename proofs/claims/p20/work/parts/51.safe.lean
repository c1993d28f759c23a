/-! ===== cars stay in their zones and have no more in them than places ===== -/
def qZ (S : Nat → Int32) (n m : Nat) : Prop := (∀ c, c < m → sp_serves S c (S (iC c 3)) ∧ sp_ofN S (nI c) (nI 2) n ≤ cN (S (iC c 2))) ∧ ∀ k, k < n → (S (iK k 2) = nI 1 ∨ S (iK k 2) = nI 2) → ∃ c, c < m ∧ S (iK k 3) = nI c ∧ sp_serves S c (S (iK k 1)) ∧ (S (iK k 2) = nI 1 → sp_serves S c (S (iK k 0)))
theorem sp_ofN_o {S S' : Nat → Int32} {c is : Int32} : ∀ n, (∀ k, k < n → S' (iK k 2) = S (iK k 2) ∧ S' (iK k 3) = S (iK k 3)) → sp_ofN S' c is n = sp_ofN S c is n := by
  intro n
  induction n with
  | zero => intro _; rfl
  | succ n ih =>
    intro h
    simp only [sp_ofN]
    rw [ih (fun k hk => h k (by omega)), (h n (by omega)).1, (h n (by omega)).2]
theorem sp_ofN_dn {S S' : Nat → Int32} {c is : Int32} {k : Nat} (h1 : ¬ (S' (iK k 2) = is ∧ S' (iK k 3) = c)) (ho : ∀ j, j ≠ k → S' (iK j 2) = S (iK j 2) ∧ S' (iK j 3) = S (iK j 3)) : ∀ n, sp_ofN S' c is n ≤ sp_ofN S c is n := by
  intro n
  induction n with
  | zero => exact Nat.le_refl _
  | succ n ih =>
    simp only [sp_ofN]
    by_cases e : n = k
    · subst e
      rw [if_neg h1]
      split <;> omega
    · rw [(ho n e).1, (ho n e).2]
      split <;> omega
section ZZ
variable {S S' : Nat → Int32} {n m t k c : Nat}
theorem qZ_o (hc : ∀ c w, w < 4 → S' (iC c w) = S (iC c w)) (hk : ∀ k w, w < 4 → S' (iK k w) = S (iK k w)) (z : qZ S n m) : qZ S' n m := by
  refine ⟨fun c hcm => ?_, fun k hkn h => ?_⟩
  · obtain ⟨a, b⟩ := z.1 c hcm
    unfold sp_serves at a ⊢
    rw [hc c 0 (by omega), hc c 1 (by omega), hc c 3 (by omega), hc c 2 (by omega), sp_ofN_o n (fun k _ => ⟨hk k 2 (by omega), hk k 3 (by omega)⟩)]
    exact ⟨a, b⟩
  · rw [hk k 2 (by omega)] at h ⊢
    obtain ⟨c, h1, h2, h3, h4⟩ := z.2 k hkn h
    refine ⟨c, h1, ?_⟩
    unfold sp_serves at h3 h4 ⊢
    rw [hk k 3 (by omega), hk k 1 (by omega), hk k 0 (by omega), hc c 0 (by omega), hc c 1 (by omega)]
    exact ⟨h2, h3, h4⟩
/-- one caller's numbers change -/
theorem qZ_K (z : qZ S n m) (hm5 : m ≤ 5) (ho : ∀ i, (∀ w, w < 8 → i ≠ iK k w) → S' i = S i) (hN : ∀ c, c < m → sp_ofN S' (nI c) (nI 2) n ≤ cN (S (iC c 2)))
    (hk : (S' (iK k 2) = nI 1 ∨ S' (iK k 2) = nI 2) → ∃ c, c < m ∧ S' (iK k 3) = nI c ∧ sp_serves S c (S' (iK k 1)) ∧ (S' (iK k 2) = nI 1 → sp_serves S c (S' (iK k 0)))) : qZ S' n m := by
  have hC : ∀ c w, c < 5 → w < 6 → S' (iC c w) = S (iC c w) := fun c w h1 h2 => ho _ (fun v hv => iCK h1 h2)
  have hK : ∀ j w, j ≠ k → w < 8 → S' (iK j w) = S (iK j w) := fun j w h1 h2 => ho _ (fun v hv => iK_ne h2 hv (fun q => h1 q.1))
  have hs : ∀ c, c < m → ∀ x, sp_serves S c x → sp_serves S' c x := fun c hcm x h => by
    unfold sp_serves at h ⊢
    rw [hC c 0 (by omega) (by omega), hC c 1 (by omega) (by omega)]
    exact h
  refine ⟨fun c hcm => ?_, fun j hj h => ?_⟩
  · rw [hC c 3 (by omega) (by omega), hC c 2 (by omega) (by omega)]
    exact ⟨hs c hcm _ (z.1 c hcm).1, hN c hcm⟩
  · by_cases e : j = k
    · subst e
      obtain ⟨c, h1, h2, h3, h4⟩ := hk h
      exact ⟨c, h1, h2, hs c h1 _ h3, fun q => hs c h1 _ (h4 q)⟩
    · rw [hK j 2 e (by omega)] at h ⊢
      obtain ⟨c, h1, h2, h3, h4⟩ := z.2 j hj h
      rw [hK j 3 e (by omega), hK j 1 e (by omega), hK j 0 e (by omega)]
      exact ⟨c, h1, h2, hs c h1 _ h3, fun q => hs c h1 _ (h4 q)⟩
/-- a caller who doesn't ride then -/
theorem qZ_Kd (z : qZ S n m) (hm5 : m ≤ 5) (ho : ∀ i, (∀ w, w < 8 → i ≠ iK k w) → S' i = S i) (hr : S' (iK k 2) ≠ nI 2)
    (hk : (S' (iK k 2) = nI 1) → ∃ c, c < m ∧ S' (iK k 3) = nI c ∧ sp_serves S c (S' (iK k 1)) ∧ sp_serves S c (S' (iK k 0))) : qZ S' n m := by
  refine qZ_K z hm5 ho (fun c hcm => Nat.le_trans (sp_ofN_dn (k := k) (fun q => hr q.1) (fun j hj => ⟨ho _ (fun v hv => iK_ne (by omega) hv (fun q => hj q.1)), ho _ (fun v hv => iK_ne (by omega) hv (fun q => hj q.1))⟩) n) (z.1 c hcm).2) (fun h => ?_)
  obtain ⟨c, h1, h2, h3, h4⟩ := hk (h.resolve_right hr)
  exact ⟨c, h1, h2, h3, fun _ => h4⟩
theorem n10 : nI 1 ≠ nI 2 := by decide
theorem n30 : nI 3 ≠ nI 2 := by decide
theorem n31 : nI 3 ≠ nI 1 := by decide
theorem n00 : nI 0 ≠ nI 2 := by decide
theorem n01 : nI 0 ≠ nI 1 := by decide
theorem z_give (w : sp_W n m t S) (z : qZ S n m) (k : Nat) {b : Int32} (hb : b = -9 ∨ ∃ c, c < m ∧ b = nI c ∧ sp_serves S c (S (iK k 0)) ∧ sp_serves S c (S (iK k 1))) : qZ (sp_give S k b) n m := by
  rcases hb with e | ⟨c, hc, e, s0, s1⟩
  · unfold sp_give; rw [if_pos e]; exact z
  · have hm5 := w.2.1
    rw [e]
    obtain ⟨ho, g0, g1, g2, g3, -⟩ := give_at (S := S) (k := k) (show c < 5 by omega)
    refine qZ_Kd z hm5 ho (by rw [g2]; exact n10) (fun _ => ⟨c, hc, g3, by rw [g1]; exact s1, by rw [g0]; exact s0⟩)
theorem z_best (w : sp_W n m t S) {f g : Int32} (hf : sp_fl f) : (sp_best S t f g n m).1 = -9 ∨ ∃ c, c < m ∧ (sp_best S t f g n m).1 = nI c ∧ sp_serves S c f ∧ sp_serves S c g := by
  rcases (lg_best_min w hf (g := g) m (Nat.le_refl _)).1 with ⟨e, _⟩ | ⟨c, _, h1, e, h2, _⟩
  · exact Or.inl e
  · exact Or.inr ⟨c, h1, e, h2.2.2⟩
theorem z_look (w : sp_W n m t S) (z : qZ S n m) : ∀ k, k ≤ n → qZ (sp_look S t n m k) n m := by
  intro k
  induction k with
  | zero => intro _; exact z
  | succ k ih =>
    intro hk
    have wk := sp_look_W w k (by omega)
    simp only [sp_look]
    split
    · exact z_give wk (ih (by omega)) k (z_best wk (wk.2.2.2.2.2.2 k (by omega)).1)
    · exact ih (by omega)
theorem z_outs (w : sp_W n m t S) (z : qZ S n m) {cc fl tk : Int32} : ∀ k, k ≤ n → qZ (sp_outs S cc fl tk k) n m := by
  intro k
  induction k with
  | zero => intro _; exact z
  | succ k ih =>
    intro hk
    simp only [sp_outs]
    split
    · refine qZ_Kd (k := k) (ih (by omega)) w.2.1 (fun i hi => by rw [oK (by omega) hi, oK (by omega) hi]) ?_ (fun h => ?_)
      · rw [rK (by omega) (by omega) (by omega), gl_upd_eq]; exact n30
      · rw [rK (by omega) (by omega) (by omega), gl_upd_eq] at h; exact absurd h n31
    · exact ih (by omega)
theorem z_tak (w : sp_W n m t S) (z : qZ S n m) {c : Nat} (hc : c < m) {fl tk : Int32} : ∀ k, k ≤ n → qZ (sp_tak S (nI c) fl (S (iC c 2)) tk n k) n m ∧ sp_tak S (nI c) fl (S (iC c 2)) tk n k (iC c 2) = S (iC c 2) := by
  have hm5 := w.2.1
  obtain ⟨p, hp1, hp8, ep⟩ := (w.2.2.2.2.2.1 c hc).2.2.2
  intro k
  induction k with
  | zero => intro _; exact ⟨z, rfl⟩
  | succ k ih =>
    intro hk
    obtain ⟨z1, z2⟩ := ih (by omega)
    have wk := sp_tak_W w (c := nI c) (fl := fl) (pl := S (iC c 2)) (tk := tk) k (by omega)
    simp only [sp_tak]
    split
    · rename_i r
      refine ⟨qZ_K (k := k) z1 hm5 (fun i hi => by rw [oK (by omega) hi, oK (by omega) hi]) (fun c' hc' => ?_) (fun _ => ?_), by rw [oK (by omega) (fun v hv => iCK (by omega) (by omega)), oK (by omega) (fun v hv => iCK (by omega) (by omega))]; exact z2⟩
      · by_cases e : c' = c
        · subst e
          have h1 := sp_ofN_up (M := sp_tak S (nI c') fl (S (iC c' 2)) tk n k) (M' := upd (upd (sp_tak S (nI c') fl (S (iC c' 2)) tk n k) (iK k 2) (nI 2)) (iK k 5) tk) (c := nI c') (is := nI 2) (k := k) (fun q => n12 (r.1.1.symm.trans q.1)) ⟨by rw [rK (by omega) (by omega) (by omega), gl_upd_eq], by rw [rK (by omega) (by omega) (by omega), rK (by omega) (by omega) (by omega)]; exact r.1.2⟩ (fun j hj => ⟨by rw [gl_upd_ne (iK_ne (by omega) (by omega) (fun q => hj q.1)), gl_upd_ne (iK_ne (by omega) (by omega) (fun q => hj q.1))], by rw [gl_upd_ne (iK_ne (by omega) (by omega) (fun q => hj q.1)), gl_upd_ne (iK_ne (by omega) (by omega) (fun q => hj q.1))]⟩) n
          rw [h1, if_pos (by omega), z2, ep, show cN (nI p) = p from nI_clamp (by omega)]
          have h2 := r.2.2
          rw [sp_of_N, ep, nI_leI (by omega) (by have := sp_ofN_le (M := sp_tak S (nI c') fl (S (iC c' 2)) tk n k) (c := nI c') (is := nI 2) n; have := w.1; rw [ep] at *; omega)] at h2
          rw [ep] at *
          omega
        · refine Nat.le_trans (sp_ofN_dn (k := k) (S := sp_tak S (nI c) fl (S (iC c 2)) tk n k) (fun q => ?_) (fun j hj => ⟨by rw [gl_upd_ne (iK_ne (by omega) (by omega) (fun q => hj q.1)), gl_upd_ne (iK_ne (by omega) (by omega) (fun q => hj q.1))], by rw [gl_upd_ne (iK_ne (by omega) (by omega) (fun q => hj q.1)), gl_upd_ne (iK_ne (by omega) (by omega) (fun q => hj q.1))]⟩) n) (z1.1 c' hc').2
          have h2 := q.2
          rw [rK (by omega) (by omega) (by omega), rK (by omega) (by omega) (by omega), r.1.2] at h2
          exact e ((nI_eq (by omega) (by omega)).mp h2.symm)
      · obtain ⟨c1, h1, h2, h3, h4⟩ := z1.2 k (by omega) (Or.inl r.1.1)
        refine ⟨c1, h1, by rw [rK (by omega) (by omega) (by omega), rK (by omega) (by omega) (by omega)]; exact h2, by rw [rK (by omega) (by omega) (by omega), rK (by omega) (by omega) (by omega)]; exact h3, fun q => ?_⟩
        rw [rK (by omega) (by omega) (by omega), gl_upd_eq] at q
        exact absurd q.symm n10
    · exact ⟨z1, z2⟩
theorem z_move : ∀ lo, lo < 16 → ∀ hi, hi < 16 → ∀ f, f < 16 → ∀ a, a < 16 → (lo ≤ f ∧ f ≤ hi ∧ lo ≤ a ∧ a ≤ hi ∧ a ≠ f) → ∃ g, lo ≤ g ∧ g ≤ hi ∧ nI f + (if nI a ≤ nI f then -1 else nI 1) = nI g := by
  intro lo _ hi _ f hf a ha h
  by_cases q : a ≤ f
  · refine ⟨f - 1, by omega, by omega, ?_⟩
    rw [if_pos ((nI_leI (by omega) (by omega)).mpr q), show f = (f - 1) + 1 by omega]
    exact pk_m1 _
  · refine ⟨f + 1, by omega, by omega, ?_⟩
    rw [if_neg (fun v => q ((nI_leI (by omega) (by omega)).mp v)), nI_add]
theorem z_serves {lo hi x : Nat} (h0 : S (iC c 0) = nI lo) (h1 : S (iC c 1) = nI hi) (hl : lo < 16) (hh : hi < 16) (hx : x < 2 ^ 31) : sp_serves S c (nI x) ↔ (lo ≤ x ∧ x ≤ hi) := by
  unfold sp_serves
  rw [h0, h1, nI_ltI (by omega) (by omega), nI_ltI (by omega) (by omega)]
  omega
theorem z_aim (w : sp_W n m t S) (z : qZ S n m) (hc : c < m) {fl : Int32} (ha : sp_aim S (nI c) fl n ≠ -9) : sp_serves S c (sp_aim S (nI c) fl n) := by
  have hm5 := w.2.1
  have h := sp_aims_in (M := S) (c := nI c) (fl := fl) n
  unfold sp_aim at ha ⊢
  by_cases q : (sp_aims S (nI c) fl n).1 = -9
  · rw [if_pos q] at ha ⊢
    obtain ⟨j, hj, r, e⟩ := h.2.resolve_left ha
    obtain ⟨c1, h1, h2, h3, h4⟩ := z.2 j hj (Or.inl r.1)
    have : c1 = c := (nI_eq (by omega) (by omega)).mp (h2.symm.trans r.2)
    subst this
    rw [← e]
    exact h4 r.1
  · rw [if_neg q] at ha ⊢
    obtain ⟨j, hj, r, e⟩ := h.1.resolve_left q
    obtain ⟨c1, h1, h2, h3, h4⟩ := z.2 j hj (Or.inr r.1)
    have : c1 = c := (nI_eq (by omega) (by omega)).mp (h2.symm.trans r.2)
    subst this
    rw [← e]
    exact h3
theorem z_stop (w : sp_W n m t S) (z : qZ S n m) (hc : c < m) : qZ (sp_stop S c t n) n m := by
  have hm5 := w.2.1
  obtain ⟨⟨lo, hl, el⟩, ⟨hi, hh, eh⟩, ⟨f, hf, ef⟩, -⟩ := w.2.2.2.2.2.1 c hc
  unfold sp_stop
  split
  · have w1 := sp_outs_W w (c := nI c) (fl := S (iC c 3)) (tk := nI t) n (Nat.le_refl _)
    have z1 := z_outs w z (cc := nI c) (fl := S (iC c 3)) (tk := nI t) n (Nat.le_refl _)
    have e1 : sp_outs S (nI c) (S (iC c 3)) (nI t) n (iC c 2) = S (iC c 2) := sp_outs_o (fun j => ⟨iCK (by omega) (by omega), iCK (by omega) (by omega)⟩) n
    have z2 := (z_tak w1 z1 hc (fl := S (iC c 3)) (tk := nI t) n (Nat.le_refl _)).1
    rw [e1] at z2
    exact qZ_o (fun c w _ => gl_upd_ne (by unfold iC; omega)) (fun k w _ => gl_upd_ne (by unfold iK; omega)) z2
  · rename_i hs
    split
    · exact z
    · rename_i ha
      have h1 := sp_aim_ne w hc hs ha
      obtain ⟨a, ha16, ea⟩ := h1.1
      have h2 := z_aim w z hc ha
      have h3 := (z.1 c hc).1
      rw [ea] at h1 h2 ⊢
      rw [ef] at h1 h3
      rw [z_serves el eh hl hh (by omega)] at h2 h3
      obtain ⟨g, g1, g2, eg⟩ := z_move lo hl hi hh f hf a ha16 ⟨h3.1, h3.2, h2.1, h2.2, fun q => h1.2 (by rw [q])⟩
      unfold sp_trav
      rw [ef, eg]
      have hK : ∀ k w, upd (upd S (iC c 3) (nI g)) (iC c 5) (S (iC c 5) + nI 1) (iK k w) = S (iK k w) := fun k w => by
        rw [gl_upd_ne (fun q => iCK (by omega) (by omega) q.symm), gl_upd_ne (fun q => iCK (by omega) (by omega) q.symm)]
      have hC : ∀ c' w, c' < 5 → w < 4 → (c' ≠ c ∨ w ≠ 3) → upd (upd S (iC c 3) (nI g)) (iC c 5) (S (iC c 5) + nI 1) (iC c' w) = S (iC c' w) := fun c' w h1 h2 h3 => by
        rw [gl_upd_ne (iC_ne (by omega) (by omega) (by omega)), gl_upd_ne (iC_ne (by omega) (by omega) (by omega))]
      refine ⟨fun c' hc' => ?_, fun k hk h => ?_⟩
      · rw [hC c' 2 (by omega) (by omega) (by omega), sp_ofN_o (S := S) n (fun k _ => ⟨hK k 2, hK k 3⟩)]
        refine ⟨?_, (z.1 c' hc').2⟩
        unfold sp_serves
        rw [hC c' 0 (by omega) (by omega) (by omega), hC c' 1 (by omega) (by omega) (by omega)]
        by_cases e : c' = c
        · subst e
          rw [rC (by omega) (by omega) (by omega), gl_upd_eq]
          exact (z_serves el eh hl hh (by omega)).mpr ⟨g1, g2⟩
        · rw [hC c' 3 (by omega) (by omega) (Or.inl e)]
          exact (z.1 c' hc').1
      · rw [hK] at h ⊢
        obtain ⟨c1, h1, h2, h3, h4⟩ := z.2 k hk h
        refine ⟨c1, h1, ?_⟩
        unfold sp_serves at h3 h4 ⊢
        rw [hK, hK, hK, hC c1 0 (by omega) (by omega) (by omega), hC c1 1 (by omega) (by omega) (by omega)]
        exact ⟨h2, h3, h4⟩
theorem z_cars (w : sp_W n m t S) (z : qZ S n m) : ∀ c, c ≤ m → qZ (sp_cars S t n c) n m := by
  intro c
  induction c with
  | zero => intro _; exact z
  | succ c ih =>
    intro hc
    simp only [sp_cars]
    split
    · exact z_stop (sp_cars_W w c (by omega)) (ih (by omega)) (by omega)
    · exact ih (by omega)
theorem z_tick (w : sp_W n m t S) (z : qZ S n m) : qZ (sp_tick S t n m) n m := by
  unfold sp_tick
  exact qZ_o (fun c w _ => gl_upd_ne (by unfold iC; omega)) (fun k w _ => gl_upd_ne (by unfold iK; omega)) (z_cars (sp_look_W w n (Nat.le_refl _)) (z_look w z n (Nat.le_refl _)) m (Nat.le_refl _))
theorem z_run (w : sp_W n m t S) (z : qZ S n m) : ∀ j, qZ (sp_run S t n m j) n m := by
  intro j
  induction j with
  | zero => exact z
  | succ j ih => exact z_tick (sp_run_W w j) ih
theorem z_lose (hm5 : m ≤ 5) (z : qZ S n m) {cc fl tk : Int32} : ∀ k, k ≤ n → qZ (sp_lose S cc fl tk k) n m := by
  intro k
  induction k with
  | zero => intro _; exact z
  | succ k ih =>
    intro hk
    simp only [sp_lose]
    split
    · split
      · refine qZ_Kd (k := k) (ih (by omega)) hm5 (fun i hi => by rw [oK (by omega) hi, oK (by omega) hi, oK (by omega) hi]) ?_ (fun h => ?_)
        · rw [rK (by omega) (by omega) (by omega), gl_upd_eq]; exact n30
        · rw [rK (by omega) (by omega) (by omega), gl_upd_eq] at h; exact absurd h n31
      · refine qZ_Kd (k := k) (ih (by omega)) hm5 (fun i hi => by rw [oK (by omega) hi, oK (by omega) hi, oK (by omega) hi]) ?_ (fun h => ?_)
        · rw [rK (by omega) (by omega) (by omega), gl_upd_eq]; exact n00
        · rw [rK (by omega) (by omega) (by omega), gl_upd_eq] at h; exact absurd h n01
    · split
      · refine qZ_Kd (k := k) (ih (by omega)) hm5 (fun i hi => by rw [oK (by omega) hi, oK (by omega) hi]) ?_ (fun h => ?_)
        · rw [rK (by omega) (by omega) (by omega), gl_upd_eq]; exact n00
        · rw [rK (by omega) (by omega) (by omega), gl_upd_eq] at h; exact absurd h n01
      · exact ih (by omega)
theorem z_st (z : qZ S n m) {i : Nat} {x : Int32} (hi : i < 28 ∨ ∃ c, c < 5 ∧ i = iC c 4) : qZ (upd S i x) n m :=
  qZ_o (fun c w _ => gl_upd_ne (by rcases hi with h | ⟨d, _, rfl⟩ <;> unfold iC <;> omega)) (fun k w _ => gl_upd_ne (by
    rcases hi with h | ⟨d, _, rfl⟩
    · unfold iK; omega
    · unfold iK iC; omega)) z
end ZZ
