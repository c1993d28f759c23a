/-! ===== the JDK's count of bits is the count of bits, for sixteen bits ===== -/
theorem nx_and (a b : Nat) : nI a &&& nI b = nI (a &&& b) := by
  apply Int32.toBitVec_inj.1
  show BitVec.ofNat 32 a &&& BitVec.ofNat 32 b = BitVec.ofNat 32 (a &&& b)
  exact BitVec.ofNat_and.symm
def bn_1 (s : Nat) : Nat := s - (s / 2 &&& 1431655765)
def bn_2 (s : Nat) : Nat := (s &&& 858993459) + (s / 4 &&& 858993459)
def bn_3 (s : Nat) : Nat := (s + s / 16) &&& 252645135
def bn_4 (s : Nat) : Nat := s + s / 256
def bn_5 (s : Nat) : Nat := s + s / 65536
def bn_o (s : Nat) : Nat → Nat
  | 0 => 0
  | k + 1 => bn_o s k + (s / 2 ^ k &&& 1)
theorem bn_k : ∀ k, k < 32 → ((nI k &&& 31).toBitVec.smod 32).toNat = k := by decide +kernel
theorem bn_u : ∀ k, k < 32 → (((nI k).toUInt32 &&& Int32.toUInt32 31).toBitVec % 32).toNat = k := by decide +kernel
theorem bn_ush {s k : Nat} (hs : s < 2 ^ 32) (hk : k < 32) : sp_ush (nI s) k = nI (s / 2 ^ k) := pk_ushrN hs (nI k) k (bn_u k hk)
theorem bn_ones {s : Nat} (hs : s < 65536) : ∀ k, k ≤ 16 → sp_ones (nI s) k = nI (bn_o s k) := by
  intro k
  induction k with
  | zero => intro _; rfl
  | succ k ih =>
    intro hk
    simp only [sp_ones, bn_o]
    rw [ih (by omega), pk_shrN (by omega) (nI k &&& 31) k (bn_k k (by omega)), nx_and, nI_add]
theorem bn_1_le (s : Nat) : bn_1 s ≤ s := Nat.sub_le _ _
theorem bn_2_le (s : Nat) : bn_2 s ≤ 858993459 + 858993459 := Nat.add_le_add (Nat.and_le_right) (Nat.and_le_right)
theorem bn_3_le (s : Nat) : bn_3 s ≤ 252645135 := Nat.and_le_right
theorem bn_c {s : Nat} (hs : s < 65536) : sp_bc (nI s) = nI (bn_5 (bn_4 (bn_3 (bn_2 (bn_1 s)))) &&& 63) := by
  have e1 : sp_c1 (nI s) = nI (bn_1 s) := by
    unfold sp_c1 bn_1
    rw [bn_ush (by omega) (by omega), show (1431655765 : Int32) = nI 1431655765 from rfl, nx_and, pk_sub (Nat.le_trans Nat.and_le_left (Nat.div_le_self _ _))]
  have l1 := bn_1_le s
  have e2 : sp_c2 (nI (bn_1 s)) = nI (bn_2 (bn_1 s)) := by
    unfold sp_c2 bn_2
    rw [bn_ush (by omega) (by omega), show (858993459 : Int32) = nI 858993459 from rfl, nx_and, nx_and, nI_add]
  have l2 := bn_2_le (bn_1 s)
  have e3 : sp_c3 (nI (bn_2 (bn_1 s))) = nI (bn_3 (bn_2 (bn_1 s))) := by
    unfold sp_c3 bn_3
    rw [bn_ush (by omega) (by omega), show (252645135 : Int32) = nI 252645135 from rfl, nI_add, nx_and]
  have l3 := bn_3_le (bn_2 (bn_1 s))
  have e4 : sp_c4 (nI (bn_3 (bn_2 (bn_1 s)))) = nI (bn_4 (bn_3 (bn_2 (bn_1 s)))) := by
    unfold sp_c4 bn_4
    rw [bn_ush (by omega) (by omega), nI_add]
  have l4 : bn_4 (bn_3 (bn_2 (bn_1 s))) ≤ 252645135 + 252645135 := Nat.add_le_add l3 (Nat.le_trans (Nat.div_le_self _ _) l3)
  have e5 : sp_c5 (nI (bn_4 (bn_3 (bn_2 (bn_1 s))))) = nI (bn_5 (bn_4 (bn_3 (bn_2 (bn_1 s))))) := by
    unfold sp_c5 bn_5
    rw [bn_ush (by omega) (by omega), nI_add]
  unfold sp_bc
  rw [e1, e2, e3, e4, e5, nx_and]
def bn_t (s : Nat) : Bool := Nat.beq (Nat.land (bn_5 (bn_4 (bn_3 (bn_2 (bn_1 s))))) 63) (bn_o s 16)
def bn_chk : Nat → Nat → Bool
  | _, 0 => true
  | s, f + 1 => bn_t s && bn_chk (s + 1) f
theorem bn_chk_ok : ∀ f s, bn_chk s f = true → ∀ i, s ≤ i → i < s + f → bn_t i = true := by
  intro f
  induction f with
  | zero => intro s _ i h1 h2; omega
  | succ f ih =>
    intro s h i h1 h2
    simp only [bn_chk, Bool.and_eq_true] at h
    by_cases e : i = s
    · rw [e]; exact h.1
    · exact ih (s + 1) h.2 i (by omega) (by omega)
set_option maxRecDepth 100000 in
theorem bn_x0 : bn_chk 0 4096 = true := by decide +kernel
set_option maxRecDepth 100000 in
theorem bn_x1 : bn_chk 4096 4096 = true := by decide +kernel
set_option maxRecDepth 100000 in
theorem bn_x2 : bn_chk 8192 4096 = true := by decide +kernel
set_option maxRecDepth 100000 in
theorem bn_x3 : bn_chk 12288 4096 = true := by decide +kernel
set_option maxRecDepth 100000 in
theorem bn_x4 : bn_chk 16384 4096 = true := by decide +kernel
set_option maxRecDepth 100000 in
theorem bn_x5 : bn_chk 20480 4096 = true := by decide +kernel
set_option maxRecDepth 100000 in
theorem bn_x6 : bn_chk 24576 4096 = true := by decide +kernel
set_option maxRecDepth 100000 in
theorem bn_x7 : bn_chk 28672 4096 = true := by decide +kernel
set_option maxRecDepth 100000 in
theorem bn_x8 : bn_chk 32768 4096 = true := by decide +kernel
set_option maxRecDepth 100000 in
theorem bn_x9 : bn_chk 36864 4096 = true := by decide +kernel
set_option maxRecDepth 100000 in
theorem bn_x10 : bn_chk 40960 4096 = true := by decide +kernel
set_option maxRecDepth 100000 in
theorem bn_x11 : bn_chk 45056 4096 = true := by decide +kernel
set_option maxRecDepth 100000 in
theorem bn_x12 : bn_chk 49152 4096 = true := by decide +kernel
set_option maxRecDepth 100000 in
theorem bn_x13 : bn_chk 53248 4096 = true := by decide +kernel
set_option maxRecDepth 100000 in
theorem bn_x14 : bn_chk 57344 4096 = true := by decide +kernel
set_option maxRecDepth 100000 in
theorem bn_x15 : bn_chk 61440 4096 = true := by decide +kernel
theorem bn_all {s : Nat} (h : s < 65536) : bn_5 (bn_4 (bn_3 (bn_2 (bn_1 s)))) &&& 63 = bn_o s 16 := by
  have h1 : bn_t s = true := by
    have hs : s / 4096 < 16 := by omega
    rcases (show s / 4096 = 0 ∨ s / 4096 = 1 ∨ s / 4096 = 2 ∨ s / 4096 = 3 ∨ s / 4096 = 4 ∨ s / 4096 = 5 ∨ s / 4096 = 6 ∨ s / 4096 = 7 ∨ s / 4096 = 8 ∨ s / 4096 = 9 ∨ s / 4096 = 10 ∨ s / 4096 = 11 ∨ s / 4096 = 12 ∨ s / 4096 = 13 ∨ s / 4096 = 14 ∨ s / 4096 = 15 by omega) with e | e | e | e | e | e | e | e | e | e | e | e | e | e | e | e
    · exact bn_chk_ok 4096 0 bn_x0 s (by omega) (by omega)
    · exact bn_chk_ok 4096 4096 bn_x1 s (by omega) (by omega)
    · exact bn_chk_ok 4096 8192 bn_x2 s (by omega) (by omega)
    · exact bn_chk_ok 4096 12288 bn_x3 s (by omega) (by omega)
    · exact bn_chk_ok 4096 16384 bn_x4 s (by omega) (by omega)
    · exact bn_chk_ok 4096 20480 bn_x5 s (by omega) (by omega)
    · exact bn_chk_ok 4096 24576 bn_x6 s (by omega) (by omega)
    · exact bn_chk_ok 4096 28672 bn_x7 s (by omega) (by omega)
    · exact bn_chk_ok 4096 32768 bn_x8 s (by omega) (by omega)
    · exact bn_chk_ok 4096 36864 bn_x9 s (by omega) (by omega)
    · exact bn_chk_ok 4096 40960 bn_x10 s (by omega) (by omega)
    · exact bn_chk_ok 4096 45056 bn_x11 s (by omega) (by omega)
    · exact bn_chk_ok 4096 49152 bn_x12 s (by omega) (by omega)
    · exact bn_chk_ok 4096 53248 bn_x13 s (by omega) (by omega)
    · exact bn_chk_ok 4096 57344 bn_x14 s (by omega) (by omega)
    · exact bn_chk_ok 4096 61440 bn_x15 s (by omega) (by omega)
  exact Nat.eq_of_beq_eq_true h1
theorem sp_bc_ok {x : Int32} (h : sp_b16 x) : sp_bc x = sp_pop x := by
  obtain ⟨s, hs, rfl⟩ := h
  rw [bn_c hs]
  unfold sp_pop
  rw [bn_ones hs 16 (by omega)]
  rw [bn_all hs]
