/-! ===== a car's tick and its failing: the longs that are written ===== -/
theorem en_uC {S : Nat → Int32} {n c w : Nat} {v : Int32} (hc : c < 5) (hw : w < 6) : upd (en S n) (28 + (6 * c + w)) v = en (upd S (iC c w) v) n := by
  rw [en_ui (by omega), show 28 + (6 * c + w) = iC c w by unfold iC; omega]
section PH
variable {S : Nat → Int32} {A n k c t : Nat}
/-- one phase on -/
theorem lg_ph_mem (hA : A < 2048) (hk : k < n) (hn : n ≤ 40) (q : qk S A k) {s : Nat} (hs : s ≤ 2) (h2' : S (iK k 2) = nI s) : upd2 (en S n) (100 + 2 * k) (lN (pkn S k) + 256) = en (upd S (iK k 2) (nI (s + 1))) n := by
  refine en_uck hk hn (fun i hi => oK (by omega) hi) (rK (by omega) (by omega) (by omega)) (rK (by omega) (by omega) (by omega)) ?_
  obtain ⟨f, g, s', b, u, a, x, y, hf, hg, hs', hb, hu, ha, hx, hy, q1, q2, q3, h0, h1, h2, h3, h7, h4, h5, h6⟩ := q
  have es : s' = s := (nI_eq (by omega) (by omega)).mp (h2.symm.trans h2')
  subst es
  rw [pkn_q hf hg hs' hb (by omega) (by omega) h0 h1 h2 h3 h7 h4, pkn_q (S := upd S (iK k 2) (nI (s' + 1))) (f := f) (g := g) (s := s' + 1) (b := b) (u := u) (a := a) hf hg (by omega) hb (by omega) (by omega) ((rK (by omega) (by omega) (by omega)).trans h0) ((rK (by omega) (by omega) (by omega)).trans h1) gl_upd_eq ((rK (by omega) (by omega) (by omega)).trans h3) ((rK (by omega) (by omega) (by omega)).trans h7) ((rK (by omega) (by omega) (by omega)).trans h4), lN256, lN_add]
  congr 1
  omega
theorem qk_ph (q : qk S A k) {s : Nat} (hs0 : 1 ≤ s) (hs : s ≤ 2) (h2' : S (iK k 2) = nI s) : qk (upd S (iK k 2) (nI (s + 1))) A k := by
  obtain ⟨f, g, s', b, u, a, x, y, hf, hg, hs', hb, hu, ha, hx, hy, q1, q2, q3, h0, h1, h2, h3, h7, h4, h5, h6⟩ := q
  have es : s' = s := (nI_eq (by omega) (by omega)).mp (h2.symm.trans h2')
  subst es
  exact ⟨f, g, s' + 1, b, u, a, x, y, hf, hg, by omega, hb, by rw [if_neg (by omega)] at hu ⊢; omega, ha, hx, hy, by omega, fun _ => q2 hs0, fun _ => q3 (by omega), (rK (by omega) (by omega) (by omega)).trans h0, (rK (by omega) (by omega) (by omega)).trans h1, gl_upd_eq, (rK (by omega) (by omega) (by omega)).trans h3, (rK (by omega) (by omega) (by omega)).trans h7, (rK (by omega) (by omega) (by omega)).trans h4, (rK (by omega) (by omega) (by omega)).trans h5, (rK (by omega) (by omega) (by omega)).trans h6⟩
theorem qk_6 (q : qk S A k) (h2' : S (iK k 2) ≠ nI 3) : S (iK k 6) = -9 := by
  obtain ⟨f, g, s', b, u, a, x, y, hf, hg, hs', hb, hu, ha, hx, hy, q1, q2, q3, h0, h1, h2, h3, h7, h4, h5, h6⟩ := q
  rw [h6, q3 (fun z => h2' (by rw [h2, z]))]
  rfl
theorem lN_i1 (ht : t < 1048575) : (nI t).toInt64 + 1 = lN (t + 1) := by rw [nI_l (by omega), lN1, lN_add]
/-- the tick of arrival -/
theorem lg_y_mem (hA : A < 2048) (hk : k < n) (hn : n ≤ 40) (q : qk S A k) (h6' : S (iK k 6) = -9) (ht : t < 1048575) : upd2 (en S n) (200 + 2 * k) (lN (rkn S k) + ((nI t).toInt64 + 1) <<< ((nI 20).toInt64 &&& 63)) = en (upd S (iK k 6) (nI t)) n := by
  refine en_urk hk hn (fun i _ h6 => gl_upd_ne h6) ?_
  obtain ⟨f, g, s', b, u, a, x, y, hf, hg, hs', hb, hu, ha, hx, hy, q1, q2, q3, h0, h1, h2, h3, h7, h4, h5, h6⟩ := q
  rw [rkn_q (y := 0) (by omega) (by omega) h5 h6', rkn_q (S := upd S (iK k 6) (nI t)) (x := x) (y := t + 1) (by omega) (by omega) ((rK (by omega) (by omega) (by omega)).trans h5) (gl_upd_eq.trans (qN_s t).symm), lN_i1 ht, wb_shl _ (by omega), lN_add]
  congr 1
  omega
theorem qk_y (q : qk S A k) (h2' : S (iK k 2) = nI 3) (ht : t < 1048575) : qk (upd S (iK k 6) (nI t)) A k := by
  obtain ⟨f, g, s', b, u, a, x, y, hf, hg, hs', hb, hu, ha, hx, hy, q1, q2, q3, h0, h1, h2, h3, h7, h4, h5, h6⟩ := q
  have es : s' = 3 := (nI_eq (by omega) (by omega)).mp (h2.symm.trans h2')
  subst es
  exact ⟨f, g, 3, b, u, a, x, t + 1, hf, hg, by omega, hb, hu, ha, hx, by omega, q1, q2, fun z => absurd rfl z, (rK (by omega) (by omega) (by omega)).trans h0, (rK (by omega) (by omega) (by omega)).trans h1, (rK (by omega) (by omega) (by omega)).trans h2, (rK (by omega) (by omega) (by omega)).trans h3, (rK (by omega) (by omega) (by omega)).trans h7, (rK (by omega) (by omega) (by omega)).trans h4, (rK (by omega) (by omega) (by omega)).trans h5, gl_upd_eq.trans (qN_s t).symm⟩
/-- the tick in which the riding begins -/
theorem lg_x_mem (hk : k < n) (hn : n ≤ 40) (h6' : S (iK k 6) = -9) (ht : t < 1048575) : upd2 (en S n) (200 + 2 * k) ((nI t).toInt64 + 1) = en (upd S (iK k 5) (nI t)) n := by
  refine en_urk hk hn (fun i h5 _ => gl_upd_ne h5) ?_
  rw [rkn_q (S := upd S (iK k 5) (nI t)) (x := t + 1) (y := 0) (by omega) (by omega) (gl_upd_eq.trans (qN_s t).symm) ((rK (by omega) (by omega) (by omega)).trans h6'), lN_i1 ht]
theorem qk_x (q : qk S A k) (ht : t < 1048575) : qk (upd S (iK k 5) (nI t)) A k := by
  obtain ⟨f, g, s', b, u, a, x, y, hf, hg, hs', hb, hu, ha, hx, hy, q1, q2, q3, h0, h1, h2, h3, h7, h4, h5, h6⟩ := q
  exact ⟨f, g, s', b, u, a, t + 1, y, hf, hg, hs', hb, hu, ha, by omega, hy, q1, q2, q3, (rK (by omega) (by omega) (by omega)).trans h0, (rK (by omega) (by omega) (by omega)).trans h1, (rK (by omega) (by omega) (by omega)).trans h2, (rK (by omega) (by omega) (by omega)).trans h3, (rK (by omega) (by omega) (by omega)).trans h7, (rK (by omega) (by omega) (by omega)).trans h4, gl_upd_eq.trans (qN_s t).symm, (rK (by omega) (by omega) (by omega)).trans h6⟩
/-- who waits loses the car -/
theorem lg_w_mem (hA : A < 2048) (hk : k < n) (hn : n ≤ 40) (q : qk S A k) (hc : c < 5) (h2' : S (iK k 2) = nI 1) (h3' : S (iK k 3) = nI c) : upd2 (en S n) (100 + 2 * k) (lN (pkn S k) - 256 - ((nI c).toInt64 + 1) <<< ((nI 10).toInt64 &&& 63)) = en (upd (upd S (iK k 2) (nI 0)) (iK k 3) (-9)) n := by
  refine en_uck hk hn (fun i hi => by rw [oK (by omega) hi, oK (by omega) hi]) (by rw [rK (by omega) (by omega) (by omega), rK (by omega) (by omega) (by omega)]) (by rw [rK (by omega) (by omega) (by omega), rK (by omega) (by omega) (by omega)]) ?_
  obtain ⟨f, g, s', b, u, a, x, y, hf, hg, hs', hb, hu, ha, hx, hy, q1, q2, q3, h0, h1, h2, h3, h7, h4, h5, h6⟩ := q
  have es : s' = 1 := (nI_eq (by omega) (by omega)).mp (h2.symm.trans h2')
  subst es
  have r : ∀ w, w < 8 → w ≠ 2 → w ≠ 3 → upd (upd S (iK k 2) (nI 0)) (iK k 3) (-9) (iK k w) = S (iK k w) := fun w hw a b => by rw [rK hw (by omega) b, rK hw (by omega) a]
  rw [pkn_q (b := c + 1) hf hg hs' (by omega) (by omega) (by omega) h0 h1 h2 (h3'.trans (qN_s c).symm) h7 h4, pkn_q (S := upd (upd S (iK k 2) (nI 0)) (iK k 3) (-9)) (f := f) (g := g) (s := 0) (b := 0) (u := u) (a := a) hf hg (by omega) (by omega) (by omega) (by omega) ((r 0 (by omega) (by omega) (by omega)).trans h0) ((r 1 (by omega) (by omega) (by omega)).trans h1) (by rw [rK (by omega) (by omega) (by omega), gl_upd_eq]) gl_upd_eq ((r 7 (by omega) (by omega) (by omega)).trans h7) ((r 4 (by omega) (by omega) (by omega)).trans h4), nI_l (by omega), lN1, lN_add, wb_shl _ (by omega), lN256, lN_sub (by omega), lN_sub (by omega)]
  congr 1
  omega
theorem qk_w {A' : Nat} (hA' : A + 1 ≤ A') (q : qk S A k) (h2' : S (iK k 2) = nI 1) : qk (upd (upd S (iK k 2) (nI 0)) (iK k 3) (-9)) A' k := by
  have r : ∀ w, w < 8 → w ≠ 2 → w ≠ 3 → upd (upd S (iK k 2) (nI 0)) (iK k 3) (-9) (iK k w) = S (iK k w) := fun w hw a b => by rw [rK hw (by omega) b, rK hw (by omega) a]
  obtain ⟨f, g, s', b, u, a, x, y, hf, hg, hs', hb, hu, ha, hx, hy, q1, q2, q3, h0, h1, h2, h3, h7, h4, h5, h6⟩ := q
  have es : s' = 1 := (nI_eq (by omega) (by omega)).mp (h2.symm.trans h2')
  subst es
  exact ⟨f, g, 0, 0, u, a, x, y, hf, hg, by omega, by omega, by simp at hu ⊢; omega, ha, hx, hy, fun _ => rfl, fun z => by omega, fun _ => q3 (by omega), (r 0 (by omega) (by omega) (by omega)).trans h0, (r 1 (by omega) (by omega) (by omega)).trans h1, by rw [rK (by omega) (by omega) (by omega), gl_upd_eq], gl_upd_eq, (r 7 (by omega) (by omega) (by omega)).trans h7, (r 4 (by omega) (by omega) (by omega)).trans h4, (r 5 (by omega) (by omega) (by omega)).trans h5, (r 6 (by omega) (by omega) (by omega)).trans h6⟩
theorem lN_or {a o : Nat} (ha : a < 2 ^ 62) (ho : o < 16) : lN a &&& (-16) ||| (nI o).toInt64 = lN (a / 16 * 16 + o) := by
  rw [q_m16 ha, nI_l (by omega), g_or (k := 4) (p := 16) rfl ho (by have := Nat.div_mul_le_self a 16; omega)]
theorem lN512 {a d : Nat} (h : 512 + d ≤ a) : lN a + (-512 - lN d) = lN (a - (512 + d)) := by
  rw [show (-512 : Int64) = -(lN 512) by decide, ← Int64.neg_add, ← Int64.sub_eq_add_neg, lN_add, lN_sub h]
/-- who rides and isn't there: at the car's floor, looking -/
theorem lg_r_mem (hA : A < 2048) (hk : k < n) (hn : n ≤ 40) (q : qk S A k) (hc : c < 5) {o : Nat} (ho : o < 16) (h2' : S (iK k 2) = nI 2) (h3' : S (iK k 3) = nI c) : upd2 (en S n) (100 + 2 * k) ((lN (pkn S k) &&& (-16) ||| (nI o).toInt64) + (-512 - ((nI c).toInt64 + 1) <<< ((nI 10).toInt64 &&& 63))) = en (upd (upd (upd S (iK k 0) (nI o)) (iK k 2) (nI 0)) (iK k 3) (-9)) n := by
  refine en_uck hk hn (fun i hi => by rw [oK (by omega) hi, oK (by omega) hi, oK (by omega) hi]) (by rw [rK (by omega) (by omega) (by omega), rK (by omega) (by omega) (by omega), rK (by omega) (by omega) (by omega)]) (by rw [rK (by omega) (by omega) (by omega), rK (by omega) (by omega) (by omega), rK (by omega) (by omega) (by omega)]) ?_
  have hl := (qk_lt hA q).1
  obtain ⟨f, g, s', b, u, a, x, y, hf, hg, hs', hb, hu, ha, hx, hy, q1, q2, q3, h0, h1, h2, h3, h7, h4, h5, h6⟩ := q
  have es : s' = 2 := (nI_eq (by omega) (by omega)).mp (h2.symm.trans h2')
  subst es
  have r : ∀ w, w < 8 → w ≠ 0 → w ≠ 2 → w ≠ 3 → upd (upd (upd S (iK k 0) (nI o)) (iK k 2) (nI 0)) (iK k 3) (-9) (iK k w) = S (iK k w) := fun w hw z a b => by rw [rK hw (by omega) b, rK hw (by omega) a, rK hw (by omega) z]
  rw [lN_or hl ho]
  rw [pkn_q (b := c + 1) hf hg hs' (by omega) (by omega) (by omega) h0 h1 h2 (h3'.trans (qN_s c).symm) h7 h4, pkn_q (S := upd (upd (upd S (iK k 0) (nI o)) (iK k 2) (nI 0)) (iK k 3) (-9)) (f := o) (g := g) (s := 0) (b := 0) (u := u) (a := a) ho hg (by omega) (by omega) (by omega) (by omega) (by rw [rK (by omega) (by omega) (by omega), rK (by omega) (by omega) (by omega), gl_upd_eq]) ((r 1 (by omega) (by omega) (by omega) (by omega)).trans h1) (by rw [rK (by omega) (by omega) (by omega), gl_upd_eq]) gl_upd_eq ((r 7 (by omega) (by omega) (by omega) (by omega)).trans h7) ((r 4 (by omega) (by omega) (by omega) (by omega)).trans h4), nI_l (by omega), lN1, lN_add, wb_shl _ (by omega), lN512 (by omega)]
  congr 1
  omega
theorem qk_r {A' : Nat} (hA' : A + 1 ≤ A') (q : qk S A k) {o : Nat} (ho : o < 16) (h2' : S (iK k 2) = nI 2) : qk (upd (upd (upd S (iK k 0) (nI o)) (iK k 2) (nI 0)) (iK k 3) (-9)) A' k := by
  have r : ∀ w, w < 8 → w ≠ 0 → w ≠ 2 → w ≠ 3 → upd (upd (upd S (iK k 0) (nI o)) (iK k 2) (nI 0)) (iK k 3) (-9) (iK k w) = S (iK k w) := fun w hw z a b => by rw [rK hw (by omega) b, rK hw (by omega) a, rK hw (by omega) z]
  obtain ⟨f, g, s', b, u, a, x, y, hf, hg, hs', hb, hu, ha, hx, hy, q1, q2, q3, h0, h1, h2, h3, h7, h4, h5, h6⟩ := q
  have es : s' = 2 := (nI_eq (by omega) (by omega)).mp (h2.symm.trans h2')
  subst es
  exact ⟨o, g, 0, 0, u, a, x, y, ho, hg, by omega, by omega, by simp at hu ⊢; omega, ha, hx, hy, fun _ => rfl, fun z => by omega, fun _ => q3 (by omega), by rw [rK (by omega) (by omega) (by omega), rK (by omega) (by omega) (by omega), gl_upd_eq], (r 1 (by omega) (by omega) (by omega) (by omega)).trans h1, by rw [rK (by omega) (by omega) (by omega), gl_upd_eq], gl_upd_eq, (r 7 (by omega) (by omega) (by omega) (by omega)).trans h7, (r 4 (by omega) (by omega) (by omega) (by omega)).trans h4, (r 5 (by omega) (by omega) (by omega) (by omega)).trans h5, (r 6 (by omega) (by omega) (by omega) (by omega)).trans h6⟩
/-- who rides and is there: at the car's floor -/
theorem lg_t_mem (hA : A < 2048) (hk : k < n) (hn : n ≤ 40) (q : qk S A k) {o : Nat} (ho : o < 16) (h2' : S (iK k 2) = nI 2) : upd2 (en S n) (100 + 2 * k) ((lN (pkn S k) &&& (-16) ||| (nI o).toInt64) + 256) = en (upd (upd S (iK k 0) (nI o)) (iK k 2) (nI 3)) n := by
  refine en_uck hk hn (fun i hi => by rw [oK (by omega) hi, oK (by omega) hi]) (by rw [rK (by omega) (by omega) (by omega), rK (by omega) (by omega) (by omega)]) (by rw [rK (by omega) (by omega) (by omega), rK (by omega) (by omega) (by omega)]) ?_
  have hl := (qk_lt hA q).1
  obtain ⟨f, g, s', b, u, a, x, y, hf, hg, hs', hb, hu, ha, hx, hy, q1, q2, q3, h0, h1, h2, h3, h7, h4, h5, h6⟩ := q
  have es : s' = 2 := (nI_eq (by omega) (by omega)).mp (h2.symm.trans h2')
  subst es
  have r : ∀ w, w < 8 → w ≠ 0 → w ≠ 2 → upd (upd S (iK k 0) (nI o)) (iK k 2) (nI 3) (iK k w) = S (iK k w) := fun w hw z a => by rw [rK hw (by omega) a, rK hw (by omega) z]
  rw [lN_or hl ho]
  rw [pkn_q hf hg hs' hb (by omega) (by omega) h0 h1 h2 h3 h7 h4, pkn_q (S := upd (upd S (iK k 0) (nI o)) (iK k 2) (nI 3)) (f := o) (g := g) (s := 3) (b := b) (u := u) (a := a) ho hg (by omega) hb (by omega) (by omega) (by rw [rK (by omega) (by omega) (by omega), gl_upd_eq]) ((r 1 (by omega) (by omega) (by omega)).trans h1) gl_upd_eq ((r 3 (by omega) (by omega) (by omega)).trans h3) ((r 7 (by omega) (by omega) (by omega)).trans h7) ((r 4 (by omega) (by omega) (by omega)).trans h4), lN256, lN_add]
  congr 1
  omega
theorem qk_t (q : qk S A k) {o : Nat} (ho : o < 16) (h2' : S (iK k 2) = nI 2) : qk (upd (upd S (iK k 0) (nI o)) (iK k 2) (nI 3)) A k := by
  have r : ∀ w, w < 8 → w ≠ 0 → w ≠ 2 → upd (upd S (iK k 0) (nI o)) (iK k 2) (nI 3) (iK k w) = S (iK k w) := fun w hw z a => by rw [rK hw (by omega) a, rK hw (by omega) z]
  obtain ⟨f, g, s', b, u, a, x, y, hf, hg, hs', hb, hu, ha, hx, hy, q1, q2, q3, h0, h1, h2, h3, h7, h4, h5, h6⟩ := q
  have es : s' = 2 := (nI_eq (by omega) (by omega)).mp (h2.symm.trans h2')
  subst es
  exact ⟨o, g, 3, b, u, a, x, y, ho, hg, by omega, hb, by simp at hu ⊢; omega, ha, hx, hy, by omega, fun _ => q2 (by omega), fun _ => q3 (by omega), by rw [rK (by omega) (by omega) (by omega), gl_upd_eq], (r 1 (by omega) (by omega) (by omega)).trans h1, gl_upd_eq, (r 3 (by omega) (by omega) (by omega)).trans h3, (r 7 (by omega) (by omega) (by omega)).trans h7, (r 4 (by omega) (by omega) (by omega)).trans h4, (r 5 (by omega) (by omega) (by omega)).trans h5, (r 6 (by omega) (by omega) (by omega)).trans h6⟩
/-- nothing is added to the ticks -/
theorem lg_n_mem (hk : k < n) (hn : n ≤ 40) : upd2 (en S n) (200 + 2 * k) (lN (rkn S k) + 0) = en S n := by
  refine en_urk hk hn (fun i _ _ => rfl) ?_
  rw [Int64.add_zero]
end PH
/-! the packing stays -/
section QW
variable {S : Nat → Int32} {A n m t c : Nat}
theorem q_outs (q : qW S A n) (ht : t < 1048575) {cc fl : Int32} : ∀ k, k ≤ n → qW (sp_outs S cc fl (nI t) k) A n := by
  intro k
  induction k with
  | zero => intro _; exact q
  | succ k ih =>
    intro hk
    have h := ih (by omega)
    simp only [sp_outs]
    split
    · rename_i r
      refine qW_K (k := k) h (fun i hi => by rw [oK (by omega) hi, oK (by omega) hi]) ?_
      exact qk_y (qk_ph (h.2 k (by omega)) (s := 2) (by omega) (by omega) r.1.1) gl_upd_eq ht
    · exact h
theorem q_tak (q : qW S A n) (ht : t < 1048575) {cc fl pl : Int32} : ∀ k, k ≤ n → qW (sp_tak S cc fl pl (nI t) n k) A n := by
  intro k
  induction k with
  | zero => intro _; exact q
  | succ k ih =>
    intro hk
    have h := ih (by omega)
    simp only [sp_tak]
    split
    · rename_i r
      refine qW_K (k := k) h (fun i hi => by rw [oK (by omega) hi, oK (by omega) hi]) ?_
      exact qk_x (qk_ph (h.2 k (by omega)) (s := 1) (by omega) (by omega) r.1.1) ht
    · exact h
theorem q_lo {i : Nat} {x : Int32} (hi : i < 58) (q : qW S A n) : qW (upd S i x) A n := qW_o q (fun j w _ => gl_upd_ne (by unfold iK; omega))
theorem q_stop (q : qW S A n) (ht : t < 1048575) (hc : c < 5) : qW (sp_stop S c t n) A n := by
  unfold sp_stop
  split
  · exact q_lo (by omega) (q_tak (q_outs q ht n (Nat.le_refl _)) ht n (Nat.le_refl _))
  · split
    · exact q
    · unfold sp_trav
      exact q_lo (by unfold iC; omega) (q_lo (by unfold iC; omega) q)
theorem q_cars (q : qW S A n) (ht : t < 1048575) : ∀ c, c ≤ 5 → qW (sp_cars S t n c) A n := by
  intro c
  induction c with
  | zero => intro _; exact q
  | succ c ih =>
    intro hc
    simp only [sp_cars]
    split
    · exact q_stop (ih (by omega)) ht (by omega)
    · exact ih (by omega)
theorem q_give (q : qW S A n) {k : Nat} (hk : k < n) (h0 : S (iK k 2) = 0) {b : Int32} (hb : b = -9 ∨ ∃ c, c < 5 ∧ b = nI c) : qW (sp_give S k b) A n := by
  rcases hb with e | ⟨c, hc, e⟩
  · unfold sp_give; rw [if_pos e]; exact q
  · rw [e]
    exact qW_K q (give_at hc).1 (qk_give (q.2 k hk) h0 hc)
theorem q_best {f g : Int32} (hm5 : m ≤ 5) : (sp_best S t f g n m).1 = -9 ∨ ∃ c, c < 5 ∧ (sp_best S t f g n m).1 = nI c := (sp_best_ok m).imp id (fun ⟨c, h, e⟩ => ⟨c, by omega, e⟩)
theorem q_look (q : qW S A n) (hm5 : m ≤ 5) : ∀ k, k ≤ n → qW (sp_look S t n m k) A n := by
  intro k
  induction k with
  | zero => intro _; exact q
  | succ k ih =>
    intro hk
    simp only [sp_look]
    split
    · rename_i r
      exact q_give (ih (by omega)) (by omega) r (q_best hm5)
    · exact ih (by omega)
theorem q_tick (q : qW S A n) (hm5 : m ≤ 5) (ht : t < 1048575) : qW (sp_tick S t n m) A n := q_lo (by omega) (q_cars (q_look q hm5 n (Nat.le_refl _)) ht m hm5)
theorem q_run (q : qW S A n) (hm5 : m ≤ 5) : ∀ j, t + j < 1048575 → qW (sp_run S t n m j) A n := by
  intro j
  induction j with
  | zero => intro _; exact q
  | succ j ih => intro h; exact q_tick (ih (by omega)) hm5 (by omega)
theorem q_up {A' : Nat} (hA : A ≤ A') (h : A' < 2048) (q : qW S A n) : qW S A' n := ⟨h, fun k hk => by
  obtain ⟨f, g, s', b, u, a, x, y, hf, hg, hs', hb, hu, r⟩ := q.2 k hk
  exact ⟨f, g, s', b, u, a, x, y, hf, hg, hs', hb, by omega, r⟩⟩
/-- behind the first k nobody has lost the car yet: there A is still what it was -/
def qL (S : Nat → Int32) (A n k : Nat) : Prop := A + 1 < 2048 ∧ (∀ j, j < n → qk S (A + 1) j) ∧ ∀ j, k ≤ j → j < n → qk S A j
theorem q_lose (q : qW S A n) (hA : A + 1 < 2048) (ht : t < 1048575) {cc : Int32} {o : Nat} (ho : o < 16) : ∀ k, k ≤ n → qL (sp_lose S cc (nI o) (nI t) k) A n k := by
  intro k
  induction k with
  | zero => intro _; exact ⟨hA, (q_up (by omega) hA q).2, fun j _ hj => q.2 j hj⟩
  | succ k ih =>
    intro hk
    obtain ⟨h1, h2, h3⟩ := ih (by omega)
    have key : ∀ S', (∀ i, (∀ w, w < 8 → i ≠ iK k w) → S' i = sp_lose S cc (nI o) (nI t) k i) → qk S' (A + 1) k → qL S' A n (k + 1) := fun S' ho' hq => ⟨hA, (qW_K ⟨h1, h2⟩ ho' hq).2, fun j hj hjn => qk_o (fun w hw => ho' _ (fun v hv => iK_ne hw hv (fun z => by omega))) (h3 j (by omega) hjn)⟩
    simp only [sp_lose]
    split
    · rename_i r
      split
      · refine key _ (fun i hi => by rw [oK (by omega) hi, oK (by omega) hi, oK (by omega) hi]) ?_
        exact qk_y (qk_t (h2 k (by omega)) ho r.1) gl_upd_eq ht
      · refine key _ (fun i hi => by rw [oK (by omega) hi, oK (by omega) hi, oK (by omega) hi]) ?_
        exact qk_r (Nat.le_refl _) (h3 k (Nat.le_refl _) (by omega)) ho r.1
    · split
      · rename_i r
        refine key _ (fun i hi => by rw [oK (by omega) hi, oK (by omega) hi]) ?_
        exact qk_w (Nat.le_refl _) (h3 k (Nat.le_refl _) (by omega)) r.1
      · exact ⟨h1, h2, fun j hj hjn => h3 j (by omega) hjn⟩
end QW
theorem lg_two0 {a b : Nat} (ha : a + b < 2 ^ 31) (h : nI (a + b) ≤ 0) : a + b = 0 := by
  rw [← nI_0', nI_leI ha (by omega)] at h
  omega
