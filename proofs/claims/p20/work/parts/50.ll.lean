/-! ===== a GoalLifts and the law's rows in one memory ===== -/
def ll (G A : Nat → Int32) : Nat → Int32 := fun i => if i < 3000 then G i else A (i - 3000)
section LLS
variable {G A : Nat → Int32} {i : Nat}
theorem ll_G (h : i < 3000) : ll G A i = G i := if_pos h
theorem ll_A : ll G A (3000 + i) = A i := by
  unfold ll
  rw [if_neg (by omega), Nat.add_sub_cancel_left]
theorem ll_u {v : Int32} : upd (ll G A) (3000 + i) v = ll G (upd A i v) := by
  funext j
  by_cases h : j = 3000 + i
  · subst h
    rw [gl_upd_eq, ll_A, gl_upd_eq]
  · rw [gl_upd_ne h]
    unfold ll
    by_cases h2 : j < 3000
    · rw [if_pos h2, if_pos h2]
    · rw [if_neg h2, if_neg h2, gl_upd_ne (by omega)]
theorem ll_u2 {x : Int64} : upd2 (ll G A) (3000 + i) x = ll G (upd2 A i x) := by
  unfold upd2
  rw [ll_u, show 3000 + i + 1 = 3000 + (i + 1) by omega, ll_u]
theorem ll_lg : gl_lg (ll G A) (3000 + i) = gl_lg A i := by
  unfold gl_lg
  rw [ll_A, show 3000 + i + 1 = 3000 + (i + 1) by omega, ll_A]
end LLS
theorem LC_lt : ∀ (j : Nat) (c : gl_Ce) (k i : Nat), LC[j]? = some c → gl_at c k = some i → i < 2648 := by
  intro j c k i hj hk
  have h : (LC.all fun c => (List.range (gl_sz c)).all fun k => match gl_at c k with
    | some i => decide (i < 2648)
    | none => true) = true := by decide +kernel
  have h1 := List.all_eq_true.mp (List.all_eq_true.mp h c (List.mem_of_getElem? hj)) k (List.mem_range.mpr (gl_at_lt hk))
  rw [hk] at h1
  simpa using h1
theorem LL_ow : ∀ (j : Nat) (c : gl_Ce) (k i : Nat), LL[j]? = some c → gl_at c k = some i → (i < 3000 ∧ j < 129) ∨ (3000 ≤ i ∧ 129 ≤ j) := by
  intro j c k i hj hk
  have h : (LL.zipIdx.all fun q => (List.range (gl_sz q.1)).all fun k => match gl_at q.1 k with
    | some i => decide ((i < 3000 ∧ q.2 < 129) ∨ (3000 ≤ i ∧ 129 ≤ q.2))
    | none => true) = true := by decide +kernel
  have h1 := List.all_eq_true.mp (List.all_eq_true.mp h (c, j) (List.mk_mem_zipIdx_iff_getElem?.mpr hj)) k (List.mem_range.mpr (gl_at_lt hk))
  dsimp only at h1
  rw [hk] at h1
  simpa using h1
theorem LL_embC : gl_emb (fun j => j) (fun i => i) LC LL = true := by decide +kernel
theorem LL_embA : gl_emb (fun j => 129 + j) (fun i => 3000 + i) LA LL = true := by decide +kernel
/-- a contract of the class, beside the law's rows -/
theorem gl_upC {F : gl_F} {y : MethodName} {ws : List Cond} {rm : Room} {av : List Value} {G G' A : Nat → Int32} {ov : Option Value} (ct : gl_Ct F LC y ws rm av G ov G') : gl_Ct F LL y ws rm av (ll G A) ov (ll G' A) := by
  refine gl_lift (em := fun j => j) (emi := fun i => i) (l1 := LC) ct LL_embC (fun i j _ _ q => q) (fun j c k i hj hk => ll_G (Nat.lt_of_lt_of_le (LC_lt j c k i hj hk) (by omega))) (fun j c k i hj hk => ll_G (Nat.lt_of_lt_of_le (LC_lt j c k i hj hk) (by omega))) (fun j2 c2 k i hj hn hk => ?_)
  rcases LL_ow j2 c2 k i hj hk with ⟨_, h2⟩ | ⟨h1, _⟩
  · exact absurd rfl (hn j2 h2)
  · unfold ll
    rw [if_neg (by omega), if_neg (by omega)]
abbrev gl_eA : Nat → Nat := fun j => 129 + j
/-- a contract of the law's, beside the GoalLifts -/
theorem gl_upA {F : gl_F} {y : MethodName} {ws : List Cond} {rm : Room} {av : List Value} {G A A' : Nat → Int32} {ov : Option Value} (ct : gl_Ct (gl_sh F gl_eA) LA y ws rm av A ov A') : gl_Ct F LL y ws rm av (ll G A) ov (ll G A') := by
  refine gl_lift (em := gl_eA) (emi := fun i => 3000 + i) (l1 := LA) ct LL_embA (fun i j _ _ q => by simp only [gl_eA] at q; omega) (fun j c k i hj hk => ll_A) (fun j c k i hj hk => ll_A) (fun j2 c2 k i hj hn hk => ?_)
  rcases LL_ow j2 c2 k i hj hk with ⟨h1, _⟩ | ⟨_, h2⟩
  · rw [ll_G h1, ll_G h1]
  · have h3 : j2 < 134 := (List.getElem?_eq_some_iff.mp hj).1
    refine absurd (show 129 + (j2 - 129) = j2 by omega) (hn (j2 - 129) (show j2 - 129 < 5 by omega))
