/-- the cells of a GoalLifts as the methods have them, out of the order in which they were made -/
def lw_em (j : Nat) : Nat := if j < 18 then 1 + j else if j < 36 then 19 + (j - 18) else if j < 126 then 39 + (j - 36) else if j = 126 then 0 else if j = 127 then 37 else 38
theorem lw_em_ok : gl_emb lw_em id LC LG = true := by decide +kernel
theorem lw_em_lt {j : Nat} (h : j < 129) : lw_em j < 129 := (by decide +kernel : ∀ j, j < 129 → lw_em j < 129) j h
def lw_me (k : Nat) : Nat := if k = 0 then 126 else if k < 19 then k - 1 else if k < 37 then k - 1 else if k = 37 then 127 else if k = 38 then 128 else k - 3
theorem lw_me_em {j : Nat} (h : j < 129) : lw_me (lw_em j) = j := (by decide +kernel : ∀ j, j < 129 → lw_me (lw_em j) = j) j h
theorem lw_em_inj {i j : Nat} (hi : i < 129) (hj : j < 129) (h : lw_em i = lw_em j) : i = j := by rw [← lw_me_em hi, ← lw_me_em hj, h]
theorem lw_perm {V : lw_V} {r : Nat → Nat} {B : va_W} {M : Nat → Int32} {cells slots pc : Nat} {L : List (Option Value)} {st : List Value} (h : lw_G V (gl_w (gk_F V.1 (fun j => r (lw_em j))) LC M ++ B) cells slots pc L st) : lw_G V (gl_w (gk_F V.1 r) LG M ++ B) cells slots pc L st := by
  obtain ⟨K, p, e, s, m, b, N, xs, below, meth, c⟩ := V
  intro H locs ls hP hD hS hl
  have hl1 : (gl_w (gk_F K (fun j => r (lw_em j))) LC M).length = 129 := by rw [gl_w_len]; rfl
  have hl2 : (gl_w (gk_F K r) LG M).length = 129 := by rw [gl_w_len]; rfl
  have at' : ∀ (k : Nat) (q : Nat × va_E), (gl_w (gk_F K (fun j => r (lw_em j))) LC M ++ B)[k]? = some q → (gl_w (gk_F K r) LG M ++ B)[if k < 129 then lw_em k else k]? = some q := by
    intro k q hq
    by_cases hk : k < 129
    · rw [if_pos hk, List.getElem?_append_left (by rw [hl2]; exact lw_em_lt hk)]
      rw [List.getElem?_append_left (by rw [hl1]; exact hk)] at hq
      obtain ⟨c1, h1, rfl⟩ := gl_w_inv hq
      obtain ⟨c2, h2, h3⟩ := gl_emb_at lw_em_ok h1
      rw [gl_w_at h2]
      exact congrArg some (Prod.ext rfl (gl_cc_e (F := gk_F K r) (em := lw_em) (S := M) (C := M) h3 (fun _ _ _ => rfl)).symm)
    · rw [if_neg hk, List.getElem?_append_right (by omega), hl2]
      rw [List.getElem?_append_right (by omega), hl1] at hq
      exact hq
  refine h H locs ls (fun k q hq => hP _ q (at' k q hq)) ⟨fun i j p q hi hj hpq => ?_, fun k q hq => hD.2 _ q (at' k q hq)⟩ hS hl
  have h1 := hD.1 _ _ p q (at' i p hi) (at' j q hj) hpq
  by_cases hi2 : i < 129
  · by_cases hj2 : j < 129
    · rw [if_pos hi2, if_pos hj2] at h1
      exact lw_em_inj hi2 hj2 h1
    · rw [if_pos hi2, if_neg hj2] at h1
      have := lw_em_lt hi2
      omega
  · by_cases hj2 : j < 129
    · rw [if_neg hi2, if_pos hj2] at h1
      have := lw_em_lt hj2
      omega
    · rw [if_neg hi2, if_neg hj2] at h1
      exact h1
theorem lw_K0 {s : State} {args : Array Value} (hts : ∀ w ∈ wsL_law, w.before args s = true) (hAO : va_AO "GoalLifts$House" s) (l : Launch) : ∃ K : gk_K, K.1 = l ∧ va_K K.2.1 vwCl (gk_tys K) s := by
  obtain ⟨c0, i0, k0⟩ := u_known (N := 9) (n := 9) hts inlX0 (hts (Cond.instantiable RX0 9) (by decide +kernel))
  obtain ⟨c1, i1, k1⟩ := u_known (N := 8) (n := 8) hts inlX1 (hts (Cond.instantiable RX1 8) (by decide +kernel))
  obtain ⟨c2, i2, k2⟩ := u_known (N := 3) (n := 3) hts inlX2 (hts (Cond.instantiable RX2 3) (by decide +kernel))
  obtain ⟨c3, i3, k3⟩ := u_known (N := 4) (n := 4) hts inlX3 (hts (Cond.instantiable RX3 4) (by decide +kernel))
  obtain ⟨c4, i4, k4⟩ := u_known (N := 3) (n := 3) hts inlX4 (hts (Cond.instantiable RX4 3) (by decide +kernel))
  obtain ⟨dA, kA, compA, a1, a2, a3⟩ := Cond.arrayClass_spec (hts (Cond.arrayClass .int) (by decide +kernel))
  obtain ⟨dC, kC, compC, d1, d2, d3⟩ := Cond.arrayClass_spec (hts (Cond.arrayClass .long) (by decide +kernel))
  obtain ⟨comp, dB, kB, b1, b2, b3, b4, b5⟩ := Cond.arrayOver_spec (va_AO.use (A := #[]) hAO)
  refine ⟨(l, (fun c => match c with | 0 => c0 | 1 => c1 | 2 => c2 | 3 => c3 | _ => c4, fun c => match c with | 0 => i0 | 1 => i1 | 2 => i2 | 3 => i3 | _ => i4), dA, (dB, dC)), rfl, fun c q hq => ?_, fun k q hk => ?_⟩
  · have hl : c < 5 := (List.getElem?_eq_some_iff.mp hq).1
    rcases (show c = 0 ∨ c = 1 ∨ c = 2 ∨ c = 3 ∨ c = 4 by omega) with rfl | rfl | rfl | rfl | rfl
    · cases hq; exact k0
    · cases hq; exact k1
    · cases hq; exact k2
    · cases hq; exact k3
    · cases hq; exact k4
  · have hl : k < 3 := (List.getElem?_eq_some_iff.mp hk).1
    rcases (show k = 0 ∨ k = 1 ∨ k = 2 by omega) with rfl | rfl | rfl
    · cases hk; exact ⟨fun N z => ⟨(fun k h => by cases h), kA, a2, compA, a3⟩, a1⟩
    · cases hk; exact ⟨fun N z => ⟨(fun k h => by cases h), kB, b3, comp, b4⟩, kB, comp, b3, b4, b1, b5⟩
    · cases hk; exact ⟨fun N z => ⟨(fun k h => by cases h), kC, d2, compC, d3⟩, d1⟩
/-- the world in order: the GoalLifts' cells as its methods have them, behind them the law's rows -/
def lw_rr (r : Nat → Nat) (q1 q2 q3 q4 q5 : Nat) : Nat → Nat := fun j => if j < 129 then r (lw_em j) else if j = 129 then q1 else if j = 130 then q2 else if j = 131 then q3 else if j = 132 then q4 else q5
theorem LC_bd : (LC.all (gl_bd 129)) = true := by decide +kernel
theorem LC_len : LC.length = 129 := by decide +kernel
theorem lw_zero {n : Nat} {f : Nat → Nat} : (fun i => if i < n then ll MG (fun _ => 0) (3000 + f i) else 0) = (fun _ => (0 : Int32)) := by
  funext i
  split
  · exact ll_A
  · rfl
theorem lw_zeroL {n : Nat} {f : Nat → Nat} : (fun i => if i < n then gl_lg (ll MG (fun _ => 0)) (3000 + f i) else 0) = (fun _ => (0 : Int64)) := by
  funext i
  split
  · rw [ll_lg]; exact (by decide +kernel : gl_mk 0 0 = 0)
  · rfl
theorem lw_merge_eq {K : gk_K} {r : Nat → Nat} {q1 q2 q3 q4 q5 : Nat} : gl_w (gk_F K (fun j => r (lw_em j))) LC MG ++ [(q1, (.inl (K.2.2.1, 4, .inl (fun _ => 0)) : va_E)), (q2, .inl (K.2.2.1, 24, .inl (fun _ => 0))), (q3, .inl (K.2.2.1, 30, .inl (fun _ => 0))), (q4, .inl (K.2.2.2.2, 40, .inr (.inl (fun _ => 0)))), (q5, .inl (K.2.2.2.2, 40, .inr (.inl (fun _ => 0))))] = gl_w (gk_F K (lw_rr r q1 q2 q3 q4 q5)) LL (ll MG (fun _ => 0)) := by
  have hl1 : (gl_w (gk_F K (fun j => r (lw_em j))) LC MG).length = 129 := by rw [gl_w_len]; rfl
  have hl2 : (gl_w (gk_F K (lw_rr r q1 q2 q3 q4 q5)) LL (ll MG (fun _ => 0))).length = 134 := by rw [gl_w_len]; rfl
  apply List.ext_getElem?
  intro j
  by_cases hj : j < 129
  · rw [List.getElem?_append_left (by rw [hl1]; exact hj)]
    have h1 : LC[j]? = some LC[j] := List.getElem?_eq_getElem (by rw [LC_len]; exact hj)
    obtain ⟨c2, h2, h3⟩ := gl_emb_at LL_embC h1
    rw [gl_w_at h1, gl_w_at h2]
    have hb : gl_bd 129 LC[j] = true := List.all_eq_true.mp LC_bd _ (List.mem_of_getElem? h1)
    have e1 : gl_e (gk_F K (fun j => r (lw_em j))) MG LC[j] = gl_e (gk_F K (lw_rr r q1 q2 q3 q4 q5)) MG LC[j] := gl_e_r (fun i hi => by unfold lw_rr; rw [if_pos hi]) hb
    have e2 : gl_e (gk_F K (lw_rr r q1 q2 q3 q4 q5)) MG LC[j] = gl_e (gk_F K (lw_rr r q1 q2 q3 q4 q5)) (ll MG (fun _ => 0)) c2 := gl_cc_e (F := gk_F K (lw_rr r q1 q2 q3 q4 q5)) (em := fun j => j) (emi := fun i => i) h3 (fun k i hi => ll_G (Nat.lt_of_lt_of_le (LC_lt j _ k i h1 hi) (by omega)))
    refine congrArg some (Prod.ext ?_ (e1.trans e2))
    show r (lw_em j) = lw_rr r q1 q2 q3 q4 q5 j
    unfold lw_rr
    rw [if_pos hj]
  · rw [List.getElem?_append_right (by rw [hl1]; omega), hl1]
    by_cases h2 : j < 134
    · rcases (show j = 129 ∨ j = 130 ∨ j = 131 ∨ j = 132 ∨ j = 133 by omega) with rfl | rfl | rfl | rfl | rfl
      · rw [gl_w_at (c := .inl (4, fun i => 3000 + i)) rfl]
        exact congrArg some (Prod.ext rfl (congrArg (fun z => (Sum.inl (K.2.2.1, 4, Sum.inl z) : va_E)) lw_zero.symm))
      · rw [gl_w_at (c := .inl (24, fun h => 3000 + (4 + h))) rfl]
        exact congrArg some (Prod.ext rfl (congrArg (fun z => (Sum.inl (K.2.2.1, 24, Sum.inl z) : va_E)) lw_zero.symm))
      · rw [gl_w_at (c := .inl (30, fun i => 3000 + (28 + i))) rfl]
        exact congrArg some (Prod.ext rfl (congrArg (fun z => (Sum.inl (K.2.2.1, 30, Sum.inl z) : va_E)) lw_zero.symm))
      · rw [gl_w_at (c := .inr (.inr (.inr (40, fun k => 3000 + (100 + 2 * k))))) rfl]
        exact congrArg some (Prod.ext rfl (congrArg (fun z => (Sum.inl (K.2.2.2.2, 40, Sum.inr (Sum.inl z)) : va_E)) lw_zeroL.symm))
      · rw [gl_w_at (c := .inr (.inr (.inr (40, fun k => 3000 + (200 + 2 * k))))) rfl]
        exact congrArg some (Prod.ext rfl (congrArg (fun z => (Sum.inl (K.2.2.2.2, 40, Sum.inr (Sum.inl z)) : va_E)) lw_zeroL.symm))
    · rw [List.getElem?_eq_none (by simp; omega), List.getElem?_eq_none (by rw [hl2]; omega)]
theorem whole_start {p : Program} {e : Env} {s : State} {m : MethodId} {below : List Frame} {meth : Method} {c : Code} (l : Launch) (hflags : l.flags = flags0) {b L : Nat} {xs : Nat → Int32} (hL : L ≤ 260) (C0 : lw_At p s m meth c b L xs) : W p l e room_1 s m #[Value.ref b] below meth c s.heap [] 0 0 (lw_Z below #[Value.ref b] s) (entryFrame m ([Value.ref b] : List Value).toArray 10) := by
  obtain ⟨hx, hb, hr, hml, hown, hts0, hX, hbl, hlk, hg⟩ := C0
  have hts : ∀ w ∈ wsL_law, w.before #[Value.ref b] s = true := fun w h => hts0 w (wsL_law_in w h)
  have hAO : va_AO "GoalLifts$House" s := va_AO.of (hts0 _ lw_inAO)
  have hNw : gk_Nw s := ⟨va_Nw.of rfl (hts0 _ lw_inN1), va_Nw.of rfl (hts0 _ lw_inN2)⟩
  obtain ⟨K, rfl, hK⟩ := lw_K0 hts hAO l
  have C : lw_C (K, p, e, s, m, b, L, xs, below, meth, c) := ⟨hx, hb, hml, hown, hts, hK, hAO, hNw, hX, hbl, hL, hlk, hr⟩
  have hav : ∀ v ∈ [Value.ref b], v.category = 1 := by intro v hv; simp at hv; subst hv; rfl
  have hl := lv_entry [.ref b] (n := 10) (by rw [gl_sl_len _ hav]; exact Nat.le_of_ble_eq_true rfl)
  rw [lg_entry_eq]
  generalize (lg_sl [Value.ref b] ++ List.replicate (10 - (lg_sl [Value.ref b]).length) Slot.unset).toArray = ls at hl ⊢
  have hL10 : gl_L 10 ls [some (.ref b), none, none, none, none, none, none, none, none, none] := by
    refine ⟨hl.1, hl.2.1, rfl, fun i v hi => ?_⟩
    rcases i with _ | i
    · simp only [List.getElem?_cons_zero, Option.some.injEq] at hi
      subst hi
      exact hl.2.2 (0, .ref b) (by simp [lv_args])
    · rw [List.getElem?_cons_succ] at hi
      have := List.eq_of_mem_replicate (n := 9) (a := (none : Option Value)) (List.mem_of_getElem? hi)
      cases this
  have G0 : lw_G (K, p, e, s, m, b, L, xs, below, meth, c) [] 0 0 0 [some (.ref b), none, none, none, none, none, none, none, none, none] [] := by
    refine lw_new (pc := 0) (ci := 4) (Cl := RX4) (T := TX4) (N := 3) (fs := [.null, .null, .null]) tyX4 C dL_law_0 rfl inlX4 tyX4_ok (by decide +kernel) (by decide +kernel) (by decide +kernel) (by decide +kernel) (by omega) (by omega) (fun q => ?_)
    refine lw_dupR (pc := 3) C dL_law_3 ?_
    refine lw_init (pc := 4) (A := []) (layc := LG) (Mc := MG) (ctX4_init K) C dL_law_4 gL_law_X4_init rfl (by decide +kernel) (by decide +kernel) (by decide +kernel) rfl hdX4_init ⟨rfl, rfl, Nat.le_of_ble_eq_true rfl, Nat.le_of_ble_eq_true rfl⟩ ⟨Nat.le_of_ble_eq_true rfl, Nat.le_of_ble_eq_true rfl⟩ (Nat.le_of_ble_eq_true rfl) (fun r er => ?_)
    subst er
    refine lw_ws (List.nil_append _) ?_
    refine lw_astore_1 (pc := 7) C dL_law_7 ?_
    refine lw_iconst (pc := 8) (nI 4) C dL_law_8 (by decide) ?_
    refine lw_newa (pc := 9) C dL_law_9 (by decide +kernel) (by omega) (Nat.le_of_ble_eq_true rfl) (Nat.le_of_ble_eq_true rfl) (fun q1 => ?_)
    refine lw_astore_2 (pc := 11) C dL_law_11 ?_
    refine lw_bipush (pc := 12) (nI 24) C dL_law_12 (by decide +kernel) ?_
    refine lw_newa (pc := 14) C dL_law_14 (by decide +kernel) (by omega) (Nat.le_of_ble_eq_true rfl) (Nat.le_of_ble_eq_true rfl) (fun q2 => ?_)
    refine lw_astore_3 (pc := 16) C dL_law_16 ?_
    refine lw_bipush (pc := 17) (nI 30) C dL_law_17 (by decide +kernel) ?_
    refine lw_newa (pc := 19) C dL_law_19 (by decide +kernel) (by omega) (Nat.le_of_ble_eq_true rfl) (Nat.le_of_ble_eq_true rfl) (fun q3 => ?_)
    refine lw_astore_4 (pc := 21) C dL_law_21 ?_
    refine lw_bipush (pc := 23) (nI 40) C dL_law_23 (by decide +kernel) ?_
    refine lw_newl (pc := 25) C dL_law_25 (by decide +kernel) (by omega) (Nat.le_of_ble_eq_true rfl) (Nat.le_of_ble_eq_true rfl) (fun q4 => ?_)
    refine lw_astore_5 (pc := 27) C dL_law_27 ?_
    refine lw_bipush (pc := 29) (nI 40) C dL_law_29 (by decide +kernel) ?_
    refine lw_newl (pc := 31) C dL_law_31 (by decide +kernel) (by omega) (Nat.le_of_ble_eq_true rfl) (Nat.le_of_ble_eq_true rfl) (fun q5 => ?_)
    refine lw_astore_6 (pc := 33) C dL_law_33 ?_
    refine lw_iconst (pc := 35) (nI 0) C dL_law_35 (by decide) ?_
    refine lw_istore_7 (pc := 36) C dL_law_36 ?_
    refine lw_ws (W1 := gl_w (gk_F K r) LG MG ++ [(q1, (.inl (K.2.2.1, 4, .inl (fun _ => 0)) : va_E)), (q2, .inl (K.2.2.1, 24, .inl (fun _ => 0))), (q3, .inl (K.2.2.1, 30, .inl (fun _ => 0))), (q4, .inl (K.2.2.2.2, 40, .inr (.inl (fun _ => 0)))), (q5, .inl (K.2.2.2.2, 40, .inr (.inl (fun _ => 0))))]) (by simp only [List.append_assoc, List.cons_append, List.nil_append]) ?_
    refine lw_perm ?_
    refine lw_ws lw_merge_eq ?_
    have h0 : lw_hr 0 = fun _ => 0 := by funext i; unfold lw_hr; rw [if_neg (by omega)]
    have h := lw_hours C (r := lw_rr r q1 q2 q3 q4 q5) 24 0 (by omega)
    rw [h0] at h
    exact h
  exact G0 s.heap [] ls (fun k q hq => by simp at hq) ⟨fun i j p q hi _ _ => by simp at hi, fun k q hq => by simp at hq⟩ va_S.rf hL10
