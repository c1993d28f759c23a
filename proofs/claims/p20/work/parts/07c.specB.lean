/-- a car is lost -/
def sp_lose (M : Nat → Int32) (c fl tk : Int32) : Nat → Nat → Int32
  | 0 => M
  | k + 1 => if sp_rd (sp_lose M c fl tk k) k c then (if sp_lose M c fl tk k (iK k 1) = fl then upd (upd (upd (sp_lose M c fl tk k) (iK k 0) fl) (iK k 2) (nI 3)) (iK k 6) tk else upd (upd (upd (sp_lose M c fl tk k) (iK k 0) fl) (iK k 2) (nI 0)) (iK k 3) (-9))
    else if sp_wt (sp_lose M c fl tk k) k c then upd (upd (sp_lose M c fl tk k) (iK k 2) (nI 0)) (iK k 3) (-9) else sp_lose M c fl tk k
theorem sp_lose_W {n m t : Nat} {M : Nat → Int32} (h : sp_W n m t M) {c fl tk : Int32} (hf : sp_fl fl) : ∀ k, k ≤ n → sp_W n m t (sp_lose M c fl tk k) := by
  intro k
  induction k with
  | zero => intro _; exact h
  | succ k ih =>
    intro hk
    have h1 := ih (by omega)
    obtain ⟨q1, q2, q3, q4⟩ := h1.2.2.2.2.2.2 k (by omega)
    simp only [sp_lose]
    split
    · rename_i hr
      have q6 := q4 (by rw [hr.1]; decide)
      split
      · refine sp_W_K h1 k (fun i hi => by rw [oK (by omega) hi, oK (by omega) hi, oK (by omega) hi]) ?_
        unfold sp_cal
        simp only [rK (k := k) (v := 0) (w := 6) (by omega) (by omega) (by omega), rK (k := k) (v := 0) (w := 2) (by omega) (by omega) (by omega), rK (k := k) (v := 1) (w := 6) (by omega) (by omega) (by omega), rK (k := k) (v := 1) (w := 2) (by omega) (by omega) (by omega), rK (k := k) (v := 1) (w := 0) (by omega) (by omega) (by omega), rK (k := k) (v := 2) (w := 6) (by omega) (by omega) (by omega), gl_upd_eq]
        exact ⟨hf, q2, ⟨3, by omega, rfl⟩, fun h => absurd rfl h⟩
      · refine sp_W_K h1 k (fun i hi => by rw [oK (by omega) hi, oK (by omega) hi, oK (by omega) hi]) ?_
        unfold sp_cal
        simp only [rK (k := k) (v := 0) (w := 3) (by omega) (by omega) (by omega), rK (k := k) (v := 0) (w := 2) (by omega) (by omega) (by omega), rK (k := k) (v := 1) (w := 3) (by omega) (by omega) (by omega), rK (k := k) (v := 1) (w := 2) (by omega) (by omega) (by omega), rK (k := k) (v := 1) (w := 0) (by omega) (by omega) (by omega), rK (k := k) (v := 2) (w := 3) (by omega) (by omega) (by omega), gl_upd_eq, rK (k := k) (v := 6) (w := 3) (by omega) (by omega) (by omega), rK (k := k) (v := 6) (w := 2) (by omega) (by omega) (by omega), rK (k := k) (v := 6) (w := 0) (by omega) (by omega) (by omega)]
        exact ⟨hf, q2, ⟨0, by omega, rfl⟩, fun _ => q6⟩
    · split
      · rename_i hr
        have q6 := q4 (by rw [hr.1]; decide)
        refine sp_W_K h1 k (fun i hi => by rw [oK (by omega) hi, oK (by omega) hi]) ?_
        unfold sp_cal
        simp only [rK (k := k) (v := 0) (w := 3) (by omega) (by omega) (by omega), rK (k := k) (v := 0) (w := 2) (by omega) (by omega) (by omega), rK (k := k) (v := 1) (w := 3) (by omega) (by omega) (by omega), rK (k := k) (v := 1) (w := 2) (by omega) (by omega) (by omega), rK (k := k) (v := 2) (w := 3) (by omega) (by omega) (by omega), gl_upd_eq, rK (k := k) (v := 6) (w := 3) (by omega) (by omega) (by omega), rK (k := k) (v := 6) (w := 2) (by omega) (by omega) (by omega)]
        exact ⟨q1, q2, ⟨0, by omega, rfl⟩, fun _ => q6⟩
      · exact h1
/-- a car fails -/
def sp_fail (M : Nat → Int32) (c t n : Nat) : Nat → Int32 := sp_lose (upd M (iC c 4) (nI 2)) (nI c) (M (iC c 3)) (nI t) n
theorem sp_W_st {n m t : Nat} {M : Nat → Int32} (w : sp_W n m t M) {c : Nat} (hc : c < m) (x : Int32) : sp_W n m t (upd M (iC c 4) x) := by
  have hm5 := w.2.1
  refine sp_W_C w c (by omega) (fun i hi => by rw [oC (by omega) hi]) ?_
  have := w.2.2.2.2.2.1 c hc
  unfold sp_car at this ⊢
  rw [rC (by omega) (by omega) (by omega), rC (by omega) (by omega) (by omega), rC (by omega) (by omega) (by omega), rC (by omega) (by omega) (by omega)]
  exact this
theorem sp_fail_W {n m t : Nat} {M : Nat → Int32} (w : sp_W n m t M) {c : Nat} (hc : c < m) : sp_W n m t (sp_fail M c t n) := sp_lose_W (sp_W_st w hc _) (w.2.2.2.2.2.1 c hc).2.2.1 n (Nat.le_refl _)
/-- a car, a caller more -/
def sp_addC (M : Nat → Int32) (m : Nat) (lo hi pl : Int32) : Nat → Int32 := upd (upd (upd (upd (upd (upd (upd M (iC m 0) lo) (iC m 1) hi) (iC m 2) pl) (iC m 3) lo) (iC m 4) (nI 0)) (iC m 5) (nI 0)) 1 (nI (m + 1))
def sp_addK (M : Nat → Int32) (n : Nat) (f g tk : Int32) : Nat → Int32 := upd (upd (upd (upd (upd (upd (upd (upd (upd M (iK n 0) f) (iK n 1) g) (iK n 2) (nI 0)) (iK n 3) (-9)) (iK n 4) tk) (iK n 5) (-9)) (iK n 6) (-9)) (iK n 7) (nI 0)) 2 (nI (n + 1))
