/-! ===== a contract over a small layout is one over a large layout that holds it ===== -/
theorem gl_ow_of {ow : Nat → Nat × Nat} {lay : List gl_Ce} (h : gl_chk ow lay = true) : ∀ (j : Nat) (c : gl_Ce) (k i : Nat), lay[j]? = some c → gl_at c k = some i → ow i = (j, k) := by
  intro j c k i hj hk
  have h1 := List.all_eq_true.mp h _ (List.mk_mem_zipIdx_iff_getElem?.mpr hj)
  simp only [Bool.and_eq_true] at h1
  have h2 := List.all_eq_true.mp h1.2 k (List.mem_range.mpr (gl_at_lt hk))
  rw [hk] at h2
  simpa using h2
def gl_mv (em emi : Nat → Nat) : Nat ⊕ Nat → Nat ⊕ Nat
  | .inl i => .inl (emi i)
  | .inr c => .inr (em c)
def gl_cc (em emi : Nat → Nat) : gl_Ce → gl_Ce → Bool
  | .inl (n, f), .inl (n', f') => decide (n = n') && (List.range n).all fun k => decide (f' k = emi (f k))
  | .inr (.inl (ci, fs)), .inr (.inl (ci', fs')) => decide (ci = ci') && decide (fs' = fs.map (gl_mv em emi))
  | .inr (.inr (.inl (n, g))), .inr (.inr (.inl (n', g'))) => decide (n = n') && (List.range n).all fun k => decide (g' k = em (g k))
  | .inr (.inr (.inr (n, f))), .inr (.inr (.inr (n', f'))) => decide (n = n') && (List.range n).all fun k => decide (f' k = emi (f k) ∧ f' k + 1 = emi (f k + 1))
  | _, _ => false
def gl_emb (em emi : Nat → Nat) (l1 l2 : List gl_Ce) : Bool := l1.zipIdx.all fun q => match l2[em q.2]? with
  | some c2 => gl_cc em emi q.1 c2
  | none => false
theorem gl_emb_at {em emi : Nat → Nat} {l1 l2 : List gl_Ce} (h : gl_emb em emi l1 l2 = true) {j : Nat} {c1 : gl_Ce} (hj : l1[j]? = some c1) : ∃ c2, l2[em j]? = some c2 ∧ gl_cc em emi c1 c2 = true := by
  have h1 := List.all_eq_true.mp h _ (List.mk_mem_zipIdx_iff_getElem?.mpr hj)
  dsimp only at h1
  cases h2 : l2[em j]? with
  | none => rw [h2] at h1; cases h1
  | some c2 => rw [h2] at h1; exact ⟨c2, rfl, h1⟩
/-- the addresses as the small layout has them -/
def gl_sh (F : gl_F) (em : Nat → Nat) : gl_F := (F.1, F.2.1, F.2.2.1, F.2.2.2.1, fun j => F.2.2.2.2 (em j))
theorem gl_cc_e {F : gl_F} {em emi : Nat → Nat} {c1 c2 : gl_Ce} {S C : Nat → Int32} (h : gl_cc em emi c1 c2 = true) (hS : ∀ k i, gl_at c1 k = some i → C (emi i) = S i) : gl_e (gl_sh F em) S c1 = gl_e F C c2 := by
  match c1, c2, h, hS with
  | .inl (n, f), .inl (n', f'), h, hS =>
    simp only [gl_cc, Bool.and_eq_true, decide_eq_true_eq] at h
    obtain ⟨rfl, h2⟩ := h
    have e : (fun i => if i < n then S (f i) else 0) = (fun i => if i < n then C (f' i) else 0) := by
      funext i
      by_cases hi : i < n
      · rw [if_pos hi, if_pos hi]
        have h3 := List.all_eq_true.mp h2 i (List.mem_range.mpr hi)
        simp only [decide_eq_true_eq] at h3
        rw [h3, hS i (f i) (by simp only [gl_at]; rw [if_pos hi])]
      · rw [if_neg hi, if_neg hi]
    simp only [gl_e, e]
    rfl
  | .inr (.inl (ci, fs)), .inr (.inl (ci', fs')), h, hS =>
    simp only [gl_cc, Bool.and_eq_true, decide_eq_true_eq] at h
    obtain ⟨rfl, rfl⟩ := h
    have e : fs.map (gl_v (gl_sh F em) S) = (fs.map (gl_mv em emi)).map (gl_v F C) := by
      apply List.ext_getElem?
      intro k
      simp only [List.getElem?_map]
      cases hf : fs[k]? with
      | none => rfl
      | some x =>
        cases x with
        | inl i =>
          have := hS k i (by simp only [gl_at]; rw [hf])
          simp only [Option.map_some, gl_mv, gl_v, this]
        | inr c => rfl
    simp only [gl_e, e]
  | .inl _, .inr _, h, _ => simp [gl_cc] at h
  | .inr (.inl _), .inl _, h, _ => simp [gl_cc] at h
  | .inr (.inr (.inl _)), .inl _, h, _ => simp [gl_cc] at h
  | .inr (.inr (.inr _)), .inl _, h, _ => simp [gl_cc] at h
  | .inr (.inr (.inl _)), .inr (.inr (.inr _)), h, _ => simp [gl_cc] at h
  | .inr (.inr (.inr _)), .inr (.inr (.inl _)), h, _ => simp [gl_cc] at h
  | .inr (.inl _), .inr (.inr (.inl _)), h, _ => simp [gl_cc] at h
  | .inr (.inl _), .inr (.inr (.inr _)), h, _ => simp [gl_cc] at h
  | .inr (.inr (.inl _)), .inr (.inl _), h, _ => simp [gl_cc] at h
  | .inr (.inr (.inr _)), .inr (.inl _), h, _ => simp [gl_cc] at h
  | .inr (.inr (.inr (n, f))), .inr (.inr (.inr (n', f'))), h, hS =>
    simp only [gl_cc, Bool.and_eq_true, decide_eq_true_eq] at h
    obtain ⟨rfl, h2⟩ := h
    have e : (fun i => if i < n then gl_lg S (f i) else 0) = (fun i => if i < n then gl_lg C (f' i) else 0) := by
      funext i
      by_cases hi : i < n
      · rw [if_pos hi, if_pos hi]
        have h3 := List.all_eq_true.mp h2 i (List.mem_range.mpr hi)
        simp only [decide_eq_true_eq] at h3
        unfold gl_lg
        rw [h3.2, h3.1, hS (2 * i) (f i) (by simp only [gl_at]; rw [if_pos (by omega), show 2 * i / 2 = i by omega, show 2 * i % 2 = 0 by omega]; rfl), hS (2 * i + 1) (f i + 1) (by simp only [gl_at]; rw [if_pos (by omega), show (2 * i + 1) / 2 = i by omega, show (2 * i + 1) % 2 = 1 by omega])]
      · rw [if_neg hi, if_neg hi]
    simp only [gl_e, e]
    rfl
  | .inr (.inr (.inl (n, g))), .inr (.inr (.inl (n', g'))), h, _ =>
    simp only [gl_cc, Bool.and_eq_true, decide_eq_true_eq] at h
    obtain ⟨rfl, h2⟩ := h
    have e : (fun i => if i < n then some (gl_r (gl_sh F em) (g i)) else none) = (fun i => if i < n then some (gl_r F (g' i)) else none) := by
      funext i
      by_cases hi : i < n
      · rw [if_pos hi, if_pos hi]
        have h3 := List.all_eq_true.mp h2 i (List.mem_range.mpr hi)
        simp only [decide_eq_true_eq] at h3
        rw [h3]
        rfl
      · rw [if_neg hi, if_neg hi]
    simp only [gl_e, e]
    rfl
theorem gl_lift {F : gl_F} {em emi : Nat → Nat} {l1 l2 : List gl_Ce} {y : MethodName} {ws : List Cond} {rm : Room} {av : List Value} {S S' C C' : Nat → Int32} {ov : Option Value}
    (ct : gl_Ct (gl_sh F em) l1 y ws rm av S ov S') (he : gl_emb em emi l1 l2 = true) (hem : ∀ i j, i < l1.length → j < l1.length → em i = em j → i = j)
    (hS : ∀ (j : Nat) (c : gl_Ce) (k i : Nat), l1[j]? = some c → gl_at c k = some i → C (emi i) = S i)
    (hS' : ∀ (j : Nat) (c : gl_Ce) (k i : Nat), l1[j]? = some c → gl_at c k = some i → C' (emi i) = S' i)
    (hC : ∀ (j2 : Nat) (c2 : gl_Ce) (k i : Nat), l2[j2]? = some c2 → (∀ j, j < l1.length → em j ≠ j2) → gl_at c2 k = some i → C' i = C i) : gl_Ct F l2 y ws rm av C ov C' := by
  have hlen : ∀ j, j < l1.length → em j < l2.length := by
    intro j hj
    obtain ⟨c2, h1, -⟩ := gl_emb_at he (List.getElem?_eq_getElem hj)
    exact (List.getElem?_eq_some_iff.mp h1).1
  intro p e ha hc hk s m args below hf happ hP hK
  obtain ⟨rfl, hP1, hKk, hI⟩ := hP
  have hr : ∀ j, gl_r (gl_sh F em) j = gl_r F (em j) := fun j => rfl
  have pre : gl_Pc (gl_sh F em) l1 av S av.toArray s := by
    refine ⟨rfl, fun k q hq => ?_, hKk, fun i j hi hj hij => hem i j hi hj (hI _ _ (hlen i hi) (hlen j hj) hij)⟩
    obtain ⟨c1, h1, rfl⟩ := gl_w_inv hq
    obtain ⟨c2, h2, h3⟩ := gl_emb_at he h1
    have h4 := hP1 (em k) _ (gl_w_at h2)
    rw [gl_cc_e (F := F) h3 (fun k' i hi => hS k c1 k' i h1 hi)]
    exact h4
  obtain ⟨n, o, a1, a2, a3, ⟨b1, b2, b3, b4⟩, L, c1, c2⟩ := ct p e ha hc hk s m av.toArray below hf happ pre hK
  have hsub : ∀ q, gl_A (gl_sh F em) l1 q → gl_A F l2 q := fun q ⟨j, hj, hq⟩ => ⟨em j, hlen j hj, hq⟩
  refine ⟨n, o, a1, a2, a3, ⟨b1, fun k q hq => ?_, b3, fun q h1 h2 => b4 q h1 (fun h => h2 (hsub q h))⟩, L, c1, fun q hq => hsub _ (c2 q hq)⟩
  obtain ⟨cc, h1, rfl⟩ := gl_w_inv hq
  by_cases hin : ∃ j, j < l1.length ∧ em j = k
  · obtain ⟨j, hj, rfl⟩ := hin
    have hj1 := List.getElem?_eq_getElem hj
    obtain ⟨cc2, h2, h3⟩ := gl_emb_at he hj1
    have e : cc = cc2 := Option.some.inj (h1.symm.trans h2)
    subst e
    have h4 := b2 j _ (gl_w_at hj1)
    rw [gl_cc_e (F := F) h3 (fun k' i hi => hS' j _ k' i hj1 hi)] at h4
    exact h4
  · have h4 := hP1 k _ (gl_w_at h1)
    have hlt := h4.lt
    have hk0 : k < l2.length := (List.getElem?_eq_some_iff.mp h1).1
    have e : gl_e F C' cc = gl_e F C cc := gl_e_upd (fun k' i hi => hC k cc k' i h1 (fun j hj q => hin ⟨j, hj, q⟩) hi)
    rw [e]
    refine h4.kept (b4 _ hlt ?_)
    rintro ⟨j, hj, hq⟩
    exact hin ⟨j, hj, (hI _ _ hk0 (hlen j hj) hq).symm⟩
/-! the houses of a GoalLifts -/
theorem owH_lt {i : Nat} (hi : i < 378) : (owH i).1 < 18 := by
  unfold owH
  split
  · omega
  · split
    · omega
    · split
      · omega
      · split
        · omega
        · split
          · omega
          · split <;> (dsimp only; omega)
theorem LC_ow : ∀ (j : Nat) (c : gl_Ce) (k i : Nat), LC[j]? = some c → gl_at c k = some i → (i < 2646 ∧ j / 18 = i / 378) ∨ (2646 ≤ i ∧ j = 127) := by
  intro j c k i hj hk
  have h := gl_ow_of (ow := fun i => if i < 2646 then ((owH (i % 378)).1 + 18 * (i / 378), (owH (i % 378)).2) else (127, i - 2646)) (lay := LC) (by decide +kernel) j c k i hj hk
  by_cases hi : i < 2646
  · left
    rw [if_pos hi] at h
    have h1 := (Prod.mk.inj h).1
    have h2 := owH_lt (i := i % 378) (Nat.mod_lt _ (by omega))
    refine ⟨hi, ?_⟩
    rw [← h1]
    omega
  · right
    rw [if_neg hi] at h
    exact ⟨by omega, (Prod.mk.inj h).1.symm⟩
theorem LH_lt : ∀ (j : Nat) (c : gl_Ce) (k i : Nat), LH[j]? = some c → gl_at c k = some i → i < 378 := by
  intro j c k i hj hk
  have h : (LH.all fun c => (List.range (gl_sz c)).all fun k => match gl_at c k with
    | some i => decide (i < 378)
    | none => true) = true := by decide +kernel
  have h1 := List.all_eq_true.mp (List.all_eq_true.mp h c (List.mem_of_getElem? hj)) k (List.mem_range.mpr (gl_at_lt hk))
  rw [hk] at h1
  simpa using h1
theorem L2_lt : ∀ (j : Nat) (c : gl_Ce) (k i : Nat), L2[j]? = some c → gl_at c k = some i → i < 756 := by
  intro j c k i hj hk
  have h : (L2.all fun c => (List.range (gl_sz c)).all fun k => match gl_at c k with
    | some i => decide (i < 756)
    | none => true) = true := by decide +kernel
  have h1 := List.all_eq_true.mp (List.all_eq_true.mp h c (List.mem_of_getElem? hj)) k (List.mem_range.mpr (gl_at_lt hk))
  rw [hk] at h1
  simpa using h1
/-- the h-th house's numbers put anew -/
def sp_blk (C : Nat → Int32) (h : Nat) (S : Nat → Int32) : Nat → Int32 := fun i => if 378 * h ≤ i ∧ i < 378 * h + 378 then S (i - 378 * h) else C i
abbrev sp_ag (C : Nat → Int32) (h : Nat) (S : Nat → Int32) : Prop := ∀ i, i < 378 → C (378 * h + i) = S i
theorem sp_blk_in {C S : Nat → Int32} {h i : Nat} (hi : i < 378) : sp_blk C h S (378 * h + i) = S i := by
  unfold sp_blk
  rw [if_pos (by omega), Nat.add_sub_cancel_left]
theorem sp_blk_out {C S : Nat → Int32} {h i : Nat} (hi : ¬ (378 * h ≤ i ∧ i < 378 * h + 378)) : sp_blk C h S i = C i := by
  unfold sp_blk
  rw [if_neg hi]
abbrev gl_eH (h : Nat) : Nat → Nat := fun j => 18 * h + j
abbrev gl_iH (h : Nat) : Nat → Nat := fun i => 378 * h + i
theorem LC_emb : ∀ h, h < 7 → gl_emb (gl_eH h) (gl_iH h) LH LC = true := by decide +kernel
/-- a house's contract, in its place in a GoalLifts -/
theorem gl_up1 {F : gl_F} (h : Nat) (hh : h < 7) {y : MethodName} {ws : List Cond} {rm : Room} {av : List Value} {S S' C : Nat → Int32} {ov : Option Value} (hS : sp_ag C h S)
    (ct : gl_Ct (gl_sh F (gl_eH h)) LH y ws rm av S ov S') : gl_Ct F LC y ws rm av C ov (sp_blk C h S') := by
  refine gl_lift ct (LC_emb h hh) (fun i j _ _ q => by simp only [gl_eH] at q; omega) (fun j c k i hj hk => hS i (LH_lt j c k i hj hk)) (fun j c k i hj hk => sp_blk_in (LH_lt j c k i hj hk)) (fun j2 c2 k i hj hn hk => ?_)
  apply sp_blk_out
  intro q
  rcases LC_ow j2 c2 k i hj hk with ⟨h1, h2⟩ | ⟨h1, h2⟩
  · have e : i / 378 = h := by omega
    exact hn (j2 - 18 * h) (by show _ < 18; omega) (by simp only [gl_eH]; omega)
  · omega
/-- a reading contract -/
theorem gl_up1r {F : gl_F} (h : Nat) (hh : h < 7) {y : MethodName} {ws : List Cond} {rm : Room} {av : List Value} {S C : Nat → Int32} {ov : Option Value} (hS : sp_ag C h S)
    (ct : gl_Ct (gl_sh F (gl_eH h)) LH y ws rm av S ov S) : gl_Ct F LC y ws rm av C ov C := by
  refine gl_lift ct (LC_emb h hh) (fun i j _ _ q => by simp only [gl_eH] at q; omega) (fun j c k i hj hk => hS i (LH_lt j c k i hj hk)) (fun j c k i hj hk => hS i (LH_lt j c k i hj hk)) (fun j2 c2 k i hj hn hk => rfl)
abbrev gl_e2 (a b : Nat) : Nat → Nat := fun j => if j < 18 then 18 * a + j else 18 * b + (j - 18)
abbrev gl_i2 (a b : Nat) : Nat → Nat := fun i => if i < 378 then 378 * a + i else 378 * b + (i - 378)
theorem LC_emb2 : ∀ a, a < 7 → ∀ b, b < 7 → gl_emb (gl_e2 a b) (gl_i2 a b) L2 LC = true := by decide +kernel
/-- one house copied from another -/
def sp_cpy (S : Nat → Int32) : Nat → Int32 := fun i => if i < 378 then S (378 + i) else S i
theorem gl_up2 {F : gl_F} (a b : Nat) (ha : a < 7) (hb : b < 7) (hab : a ≠ b) {y : MethodName} {ws : List Cond} {rm : Room} {av : List Value} {C : Nat → Int32} {ov : Option Value}
    (ct : gl_Ct (gl_sh F (gl_e2 a b)) L2 y ws rm av (fun i => C (gl_i2 a b i)) ov (sp_cpy (fun i => C (gl_i2 a b i)))) : gl_Ct F LC y ws rm av C ov (sp_blk C a (fun i => C (378 * b + i))) := by
  refine gl_lift ct (LC_emb2 a ha b hb) (fun i j hi hj q => ?_) (fun j c k i hj hk => rfl) (fun j c k i hj hk => ?_) (fun j2 c2 k i hj hn hk => ?_)
  · have hi : i < 36 := hi
    have hj : j < 36 := hj
    simp only [gl_e2] at q
    split at q <;> split at q <;> omega
  · have hi := L2_lt j c k i hj hk
    unfold sp_cpy
    by_cases h : i < 378
    · simp only [gl_i2, if_pos h]
      rw [sp_blk_in h, if_neg (by omega), Nat.add_sub_cancel_left]
    · simp only [gl_i2, if_neg h]
      rw [sp_blk_out]
      omega
  · apply sp_blk_out
    intro q
    rcases LC_ow j2 c2 k i hj hk with ⟨h1, h2⟩ | ⟨h1, h2⟩
    · have e : i / 378 = a := by omega
      refine hn (j2 - 18 * a) (by show _ < 36; omega) ?_
      simp only [gl_e2]
      rw [if_pos (by omega)]
      omega
    · omega
