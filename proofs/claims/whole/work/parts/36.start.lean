/-! ===== the start: a new GoalLifts and a new model ===== -/
theorem lw_Inv0 : lw_Inv MG MH := by
  refine ⟨0, 0, 0, 0, 0, ⟨by omega, by omega, rfl, rfl, rfl, fun c hc => absurd hc (by omega), fun k hk => absurd hk (by omega)⟩, by omega, fun i hi => MG_h 0 i (by omega) hi, by omega, by omega, rfl, rfl, rfl, fun j hj => absurd hj (by omega)⟩
/-- the cells of a GoalLifts as the methods have them, out of the order in which they were made -/
def lw_em (j : Nat) : Nat := if j < 18 then 1 + j else if j < 36 then 19 + (j - 18) else if j < 126 then 39 + (j - 36) else if j = 126 then 0 else if j = 127 then 37 else 38
theorem lw_em_ok : gl_emb lw_em id LC LG = true := by decide +kernel
theorem lw_em_lt {j : Nat} (h : j < 129) : lw_em j < 129 := (by decide +kernel : ∀ j, j < 129 → lw_em j < 129) j h
def lw_me (k : Nat) : Nat := if k = 0 then 126 else if k < 19 then k - 1 else if k < 37 then k - 1 else if k = 37 then 127 else if k = 38 then 128 else k - 3
theorem lw_me_em {j : Nat} (h : j < 129) : lw_me (lw_em j) = j := (by decide +kernel : ∀ j, j < 129 → lw_me (lw_em j) = j) j h
theorem lw_em_inj {i j : Nat} (hi : i < 129) (hj : j < 129) (h : lw_em i = lw_em j) : i = j := by rw [← lw_me_em hi, ← lw_me_em hj, h]
theorem lw_perm {V : lw_V} {r : Nat → Nat} {B : va_W} {M : Nat → Int32} {cells slots pc : Nat} {L : List (Option Value)} {st : List Value} (h : lw_G V (gl_w (gk_F V.1 (fun j => r (lw_em j))) LC M ++ B) cells slots pc L st) : lw_G V (gl_w (gk_F V.1 r) LG M ++ B) cells slots pc L st := by
  obtain ⟨K, p, e, s, m, b, LL, xs, below, meth, c⟩ := V
  intro H locs ls hP hD hS hl
  have hl1 : (gl_w (gk_F K (fun j => r (lw_em j))) LC M).length = 129 := by rw [gl_w_len]; rfl
  have hl2 : (gl_w (gk_F K r) LG M).length = 129 := by rw [gl_w_len]; rfl
  have at' : ∀ (k : Nat) (q : Nat × va_E), (gl_w (gk_F K (fun j => r (lw_em j))) LC M ++ B)[k]? = some q → (gl_w (gk_F K r) LG M ++ B)[if k < 129 then lw_em k else k]? = some q := by
    intro k q hq
    by_cases hk : k < 129
    · rw [if_pos hk, List.getElem?_append_left (by rw [hl2]; exact lw_em_lt hk)]
      rw [List.getElem?_append_left (by rw [hl1]; exact hk)] at hq
      obtain ⟨c1, h1, rfl⟩ := gl_w_inv hq
      obtain ⟨c2, h2, h3⟩ := gl_emb_at lw_em_ok h1
      rw [gl_w_at h2]
      exact congrArg some (Prod.ext rfl (gl_cc_e (F := gk_F K r) (em := lw_em) (S := M) (C := M) h3 (fun _ _ _ => rfl)).symm)
    · rw [if_neg hk, List.getElem?_append_right (by omega), hl2]
      rw [List.getElem?_append_right (by omega), hl1] at hq
      exact hq
  refine h H locs ls (fun k q hq => hP _ q (at' k q hq)) ⟨fun i j p q hi hj hpq => ?_, fun k q hq => hD.2 _ q (at' k q hq)⟩ hS hl
  have h1 := hD.1 _ _ p q (at' i p hi) (at' j q hj) hpq
  by_cases hi2 : i < 129
  · by_cases hj2 : j < 129
    · rw [if_pos hi2, if_pos hj2] at h1
      exact lw_em_inj hi2 hj2 h1
    · rw [if_pos hi2, if_neg hj2] at h1
      have := lw_em_lt hi2
      omega
  · by_cases hj2 : j < 129
    · rw [if_neg hi2, if_pos hj2] at h1
      have := lw_em_lt hj2
      omega
    · rw [if_neg hi2, if_neg hj2] at h1
      exact h1
theorem lw_K0 {s : State} {args : Array Value} (hts : ∀ w ∈ wsL_law, w.before args s = true) (hAO : va_AO "GoalLifts$House" s) (l : Launch) : ∃ K : gk_K, K.1 = l ∧ va_K K.2.1 vwCl (gk_tys K) s := by
  obtain ⟨c0, i0, k0⟩ := u_known (N := 9) (n := 9) hts inlX0 (hts (Cond.instantiable RX0 9) (by decide +kernel))
  obtain ⟨c1, i1, k1⟩ := u_known (N := 8) (n := 8) hts inlX1 (hts (Cond.instantiable RX1 8) (by decide +kernel))
  obtain ⟨c2, i2, k2⟩ := u_known (N := 3) (n := 3) hts inlX2 (hts (Cond.instantiable RX2 3) (by decide +kernel))
  obtain ⟨c3, i3, k3⟩ := u_known (N := 4) (n := 4) hts inlX3 (hts (Cond.instantiable RX3 4) (by decide +kernel))
  obtain ⟨c4, i4, k4⟩ := u_known (N := 3) (n := 3) hts inlX4 (hts (Cond.instantiable RX4 3) (by decide +kernel))
  obtain ⟨c5, i5, k5⟩ := u_known (N := 5) (n := 5) hts inlX5 (hts (Cond.instantiable RX5 5) (by decide +kernel))
  obtain ⟨dA, kA, compA, a1, a2, a3⟩ := Cond.arrayClass_spec (hts (Cond.arrayClass .int) (by decide +kernel))
  obtain ⟨comp, dB, kB, b1, b2, b3, b4, b5⟩ := Cond.arrayOver_spec (va_AO.use (A := #[]) hAO)
  refine ⟨(l, (fun c => match c with | 0 => c0 | 1 => c1 | 2 => c2 | 3 => c3 | 4 => c4 | _ => c5, fun c => match c with | 0 => i0 | 1 => i1 | 2 => i2 | 3 => i3 | 4 => i4 | _ => i5), dA, dB), rfl, fun c q hq => ?_, fun k q hk => ?_⟩
  · have hl : c < 6 := (List.getElem?_eq_some_iff.mp hq).1
    rcases (show c = 0 ∨ c = 1 ∨ c = 2 ∨ c = 3 ∨ c = 4 ∨ c = 5 by omega) with rfl | rfl | rfl | rfl | rfl | rfl
    · cases hq; exact k0
    · cases hq; exact k1
    · cases hq; exact k2
    · cases hq; exact k3
    · cases hq; exact k4
    · cases hq; exact k5
  · have hl : k < 2 := (List.getElem?_eq_some_iff.mp hk).1
    rcases (show k = 0 ∨ k = 1 by omega) with rfl | rfl
    · cases hk; exact ⟨fun N z => ⟨(fun k h => by cases h), kA, a2, compA, a3⟩, a1⟩
    · cases hk; exact ⟨fun N z => ⟨(fun k h => by cases h), kB, b3, comp, b4⟩, kB, comp, b3, b4, b1, b5⟩
