/-! ===== the law's rows: a house's numbers packed ===== -/
theorem wb_c : ∀ k, k < 64 → ((nI k).toInt64 &&& 63) = lN k := by decide +kernel
theorem wb_tb (n : Nat) : (lN n).toBitVec = BitVec.ofNat 64 n := rfl
theorem wb_inj {a b : Int64} (h : a.toBitVec = b.toBitVec) : a = b := Int64.toBitVec_inj.mp h
theorem wb_sm : ∀ k, k < 64 → (BitVec.ofNat 64 k).smod 64 = BitVec.ofNat 64 k := by decide +kernel
theorem wb_shl (n : Nat) {k : Nat} (hk : k < 64) : lN n <<< ((nI k).toInt64 &&& 63) = lN (n * 2 ^ k) := by
  rw [wb_c k hk]
  apply wb_inj
  rw [Int64.toBitVec_shiftLeft, wb_tb, wb_tb, wb_tb, wb_sm k hk]
  apply BitVec.eq_of_toNat_eq
  rw [BitVec.shiftLeft_eq', BitVec.toNat_shiftLeft, BitVec.toNat_ofNat, BitVec.toNat_ofNat, BitVec.toNat_ofNat, Nat.mod_eq_of_lt (show k < 2 ^ 64 by omega), Nat.shiftLeft_eq, Nat.mul_mod, Nat.mod_mod, ← Nat.mul_mod]
theorem u_tn {n : Nat} (h : n < 2 ^ 64) : (UInt64.ofNat n).toNat = n := Nat.mod_eq_of_lt h
theorem g_and {a b c : Nat} (ha : a < 2 ^ 64) (hb : b < 2 ^ 64) (hc : a &&& b = c) : lN a &&& lN b = lN c := by
  subst hc
  have h : UInt64.ofNat a &&& UInt64.ofNat b = UInt64.ofNat (a &&& b) := UInt64.toNat_inj.mp (by rw [UInt64.toNat_and, u_tn ha, u_tn hb, u_tn (Nat.and_lt_two_pow a hb)])
  have h2 := congrArg UInt64.toInt64 h
  exact h2
theorem g_mask {a s p : Nat} (hp : 2 ^ s = p) (hs : s < 64) (ha : a < 2 ^ 64) : lN a &&& lN (p - 1) = lN (a % p) := by
  subst hp
  have := Nat.pow_lt_pow_right (show 1 < 2 by decide) hs
  exact g_and ha (by omega) (Nat.and_two_pow_sub_one_eq_mod a s)
theorem g_or {k p a b : Nat} (hp : 2 ^ k = p) (ha : a < p) (h : b * p + a < 2 ^ 64) : lN (b * p) ||| lN a = lN (b * p + a) := by
  subst hp
  have h1 : b * 2 ^ k ||| a = b * 2 ^ k + a := by rw [← Nat.shiftLeft_eq, Nat.shiftLeft_add_eq_or_of_lt ha]
  have h3 : UInt64.ofNat (b * 2 ^ k) ||| UInt64.ofNat a = UInt64.ofNat (b * 2 ^ k + a) := UInt64.toNat_inj.mp (by rw [UInt64.toNat_or, u_tn (by omega), u_tn (by omega), u_tn h, h1])
  have h2 := congrArg UInt64.toInt64 h3
  exact h2
theorem pf_lI {a : Nat} (h : a < 2 ^ 63) : (lN a).toInt = (a : Int) := lg_ofNat_toInt h
theorem pf_shr {a d : Nat} {D : Int64} (hD : (D.toBitVec.smod 64).toNat = d) (h : a < 2 ^ 62) : lN a >>> D = lN (a / 2 ^ d) := by
  have hd : a / 2 ^ d ≤ a := Nat.div_le_self _ _
  apply Int64.toInt_inj.mp
  have e : (lN a >>> D).toInt = (lN a).toInt >>> d := by
    rw [← hD]
    exact BitVec.toInt_sshiftRight ..
  rw [e, Int.shiftRight_eq_div_pow, pf_lI (by omega), pf_lI (by omega)]
  rfl
theorem q_shr {a d : Nat} (hd : d < 64) (h : a < 2 ^ 62) : lN a >>> ((nI d).toInt64 &&& 63) = lN (a / 2 ^ d) := by
  rw [wb_c d hd]
  exact pf_shr (by rw [wb_tb, wb_sm d hd]; exact Nat.mod_eq_of_lt (by omega)) h
/-- the four last bits put to nothing -/
theorem q_m16 {a : Nat} (h : a < 2 ^ 62) : lN a &&& (-16) = lN (a / 16 * 16) := by
  have e : a &&& 18446744073709551600 = a / 16 * 16 := by
    apply Nat.eq_of_testBit_eq
    intro i
    rw [Nat.testBit_and, show a / 16 * 16 = (a >>> 4) <<< 4 by rw [Nat.shiftLeft_eq, Nat.shiftRight_eq_div_pow], Nat.testBit_shiftLeft, Nat.testBit_shiftRight]
    by_cases hi : i < 4
    · have : ∀ j, j < 4 → Nat.testBit 18446744073709551600 j = false := by decide
      rw [this i hi]
      simp [show ¬ 4 ≤ i by omega]
    · rw [show 4 + (i - 4) = i by omega]
      by_cases h2 : i < 64
      · have : ∀ j, j < 64 → 4 ≤ j → Nat.testBit 18446744073709551600 j = true := by decide +kernel
        rw [this i h2 (by omega)]
        simp [show 4 ≤ i by omega]
      · have : a.testBit i = false := Nat.testBit_lt_two_pow (Nat.lt_of_lt_of_le h (Nat.pow_le_pow_right (by decide) (by omega)))
        rw [this]
        simp
  exact g_and (b := 18446744073709551600) (by omega) (by decide) e
def qB (x : Int32) : Nat := if x = -9 then 0 else cN x + 1
def qN (b : Nat) : Int32 := if b = 0 then -9 else nI (b - 1)
theorem n9 {c : Nat} (h : c < 2 ^ 31) : ¬ nI c = -9 := fun q => by
  have := congrArg Int32.toInt q
  rw [nI_toInt h, show (-9 : Int32).toInt = -9 by decide] at this
  omega
theorem n1' {c : Nat} (h : c < 2 ^ 31) : ¬ nI c = -1 := fun q => by
  have := congrArg Int32.toInt q
  rw [nI_toInt h, show (-1 : Int32).toInt = -1 by decide] at this
  omega
theorem qB_N {b : Nat} (h : b < 2 ^ 31) : qB (qN b) = b := by
  unfold qB qN
  by_cases hb : b = 0
  · rw [if_pos hb, if_pos rfl, hb]
  · rw [if_neg hb, if_neg (n9 (by omega)), show cN (nI (b - 1)) = b - 1 from nI_clamp (by omega)]
    omega
theorem qN_s (b : Nat) : qN (b + 1) = nI b := by unfold qN; rw [if_neg (by omega), Nat.add_sub_cancel]
def pkn (S : Nat → Int32) (k : Nat) : Nat := cN (S (iK k 0)) + 16 * cN (S (iK k 1)) + 256 * cN (S (iK k 2)) + 1024 * qB (S (iK k 3)) + 8192 * cN (S (iK k 7)) + 16777216 * cN (S (iK k 4))
def rkn (S : Nat → Int32) (k : Nat) : Nat := qB (S (iK k 5)) + 1048576 * qB (S (iK k 6))
def cw (S : Nat → Int32) (n k : Nat) : Int64 := if k < n then lN (pkn S k) else 0
def rr (S : Nat → Int32) (n k : Nat) : Int64 := if k < n then lN (rkn S k) else 0
/-- the law's memory, of a house's numbers -/
def en (S : Nat → Int32) (n : Nat) : Nat → Int32 := fun i => if i < 58 then S i else if i < 100 then 0 else if i < 180 then (if i % 2 = 0 then gl_hi (cw S n ((i - 100) / 2)) else gl_lo (cw S n ((i - 100) / 2))) else if i < 200 then 0 else if i < 280 then (if i % 2 = 0 then gl_hi (rr S n ((i - 200) / 2)) else gl_lo (rr S n ((i - 200) / 2))) else 0
section EN
variable {S S' : Nat → Int32} {n n' k i : Nat} {x : Int64}
theorem en_i (h : i < 58) : en S n i = S i := by unfold en; rw [if_pos h]
theorem en_C {c w : Nat} (hc : c < 5) (hw : w < 6) : en S n (28 + (6 * c + w)) = S (iC c w) := by
  rw [en_i (by omega)]
  congr 1
  unfold iC
  omega
theorem en_c0 (hk : k < 40) : en S n (100 + 2 * k) = gl_hi (cw S n k) := by
  unfold en
  rw [if_neg (by omega), if_neg (by omega), if_pos (by omega), if_pos (by omega), show (100 + 2 * k - 100) / 2 = k by omega]
theorem en_c1 (hk : k < 40) : en S n (100 + 2 * k + 1) = gl_lo (cw S n k) := by
  unfold en
  rw [if_neg (by omega), if_neg (by omega), if_pos (by omega), if_neg (by omega), show (100 + 2 * k + 1 - 100) / 2 = k by omega]
theorem en_r0 (hk : k < 40) : en S n (200 + 2 * k) = gl_hi (rr S n k) := by
  unfold en
  rw [if_neg (by omega), if_neg (by omega), if_neg (by omega), if_neg (by omega), if_pos (by omega), if_pos (by omega), show (200 + 2 * k - 200) / 2 = k by omega]
theorem en_r1 (hk : k < 40) : en S n (200 + 2 * k + 1) = gl_lo (rr S n k) := by
  unfold en
  rw [if_neg (by omega), if_neg (by omega), if_neg (by omega), if_neg (by omega), if_pos (by omega), if_neg (by omega), show (200 + 2 * k + 1 - 200) / 2 = k by omega]
theorem en_c (hk : k < 40) (hn : k < n) : gl_lg (en S n) (100 + 2 * k) = lN (pkn S k) := by
  unfold gl_lg
  rw [en_c0 hk, en_c1 hk, gl_mk_ok]
  unfold cw
  rw [if_pos hn]
theorem en_r (hk : k < 40) (hn : k < n) : gl_lg (en S n) (200 + 2 * k) = lN (rkn S k) := by
  unfold gl_lg
  rw [en_r0 hk, en_r1 hk, gl_mk_ok]
  unfold rr
  rw [if_pos hn]
/-- a number of the first 58 is written -/
theorem pkn_o (h : ∀ w, w < 8 → S' (iK k w) = S (iK k w)) : pkn S' k = pkn S k := by
  unfold pkn
  rw [h 0 (by omega), h 1 (by omega), h 2 (by omega), h 3 (by omega), h 7 (by omega), h 4 (by omega)]
theorem rkn_o (h : ∀ w, w < 8 → S' (iK k w) = S (iK k w)) : rkn S' k = rkn S k := by
  unfold rkn
  rw [h 5 (by omega), h 6 (by omega)]
theorem en_ext (h0 : ∀ i, i < 58 → S' i = S i) (hc : ∀ j, j < 40 → cw S' n' j = cw S n j) (hr : ∀ j, j < 40 → rr S' n' j = rr S n j) : en S' n' = en S n := by
  funext i
  unfold en
  by_cases a1 : i < 58
  · rw [if_pos a1, if_pos a1, h0 i a1]
  rw [if_neg a1, if_neg a1]
  by_cases a2 : i < 100
  · rw [if_pos a2, if_pos a2]
  rw [if_neg a2, if_neg a2]
  by_cases a3 : i < 180
  · rw [if_pos a3, if_pos a3, hc _ (by omega)]
  rw [if_neg a3, if_neg a3]
  by_cases a4 : i < 200
  · rw [if_pos a4, if_pos a4]
  rw [if_neg a4, if_neg a4]
  by_cases a5 : i < 280
  · rw [if_pos a5, if_pos a5, hr _ (by omega)]
  rw [if_neg a5, if_neg a5]
theorem en_ui {v : Int32} (h : i < 58) : upd (en S n) i v = en (upd S i v) n := by
  have hu : ∀ j, 58 ≤ j → upd S i v j = S j := fun j hj => gl_upd_ne (by omega)
  have hc : ∀ j, cw (upd S i v) n j = cw S n j := fun j => by unfold cw; rw [pkn_o (fun w _ => hu _ (by unfold iK; omega))]
  have hr : ∀ j, rr (upd S i v) n j = rr S n j := fun j => by unfold rr; rw [rkn_o (fun w _ => hu _ (by unfold iK; omega))]
  funext j
  by_cases hj : j = i
  · subst hj
    rw [gl_upd_eq, en_i h, gl_upd_eq]
  rw [gl_upd_ne hj]
  unfold en
  simp only [hc, hr]
  by_cases a1 : j < 58
  · rw [if_pos a1, if_pos a1, gl_upd_ne hj]
  · rw [if_neg a1, if_neg a1]
/-- a caller's long is written -/
theorem en_uc (hk : k < 40) (h0 : ∀ i, i < 58 → S' i = S i) (hc : ∀ j, j < 40 → cw S' n' j = if j = k then x else cw S n j) (hr : ∀ j, j < 40 → rr S' n' j = rr S n j) : upd2 (en S n) (100 + 2 * k) x = en S' n' := by
  funext i
  by_cases e0 : i = 100 + 2 * k
  · subst e0
    unfold upd2
    rw [gl_upd_ne (by omega), gl_upd_eq, en_c0 hk, hc k hk, if_pos rfl]
  by_cases e1 : i = 100 + 2 * k + 1
  · subst e1
    unfold upd2
    rw [gl_upd_eq, en_c1 hk, hc k hk, if_pos rfl]
  rw [gl_upd2_ne (by omega)]
  unfold en
  by_cases a1 : i < 58
  · rw [if_pos a1, if_pos a1, h0 i a1]
  rw [if_neg a1, if_neg a1]
  by_cases a2 : i < 100
  · rw [if_pos a2, if_pos a2]
  rw [if_neg a2, if_neg a2]
  by_cases a3 : i < 180
  · rw [if_pos a3, if_pos a3, hc _ (by omega), if_neg (show ¬ (i - 100) / 2 = k by omega)]
  rw [if_neg a3, if_neg a3]
  by_cases a4 : i < 200
  · rw [if_pos a4, if_pos a4]
  rw [if_neg a4, if_neg a4]
  by_cases a5 : i < 280
  · rw [if_pos a5, if_pos a5, hr _ (by omega)]
  rw [if_neg a5, if_neg a5]
theorem en_ur (hk : k < 40) (h0 : ∀ i, i < 58 → S' i = S i) (hc : ∀ j, j < 40 → cw S' n' j = cw S n j) (hr : ∀ j, j < 40 → rr S' n' j = if j = k then x else rr S n j) : upd2 (en S n) (200 + 2 * k) x = en S' n' := by
  funext i
  by_cases e0 : i = 200 + 2 * k
  · subst e0
    unfold upd2
    rw [gl_upd_ne (by omega), gl_upd_eq, en_r0 hk, hr k hk, if_pos rfl]
  by_cases e1 : i = 200 + 2 * k + 1
  · subst e1
    unfold upd2
    rw [gl_upd_eq, en_r1 hk, hr k hk, if_pos rfl]
  rw [gl_upd2_ne (by omega)]
  unfold en
  by_cases a1 : i < 58
  · rw [if_pos a1, if_pos a1, h0 i a1]
  rw [if_neg a1, if_neg a1]
  by_cases a2 : i < 100
  · rw [if_pos a2, if_pos a2]
  rw [if_neg a2, if_neg a2]
  by_cases a3 : i < 180
  · rw [if_pos a3, if_pos a3, hc _ (by omega)]
  rw [if_neg a3, if_neg a3]
  by_cases a4 : i < 200
  · rw [if_pos a4, if_pos a4]
  rw [if_neg a4, if_neg a4]
  by_cases a5 : i < 280
  · rw [if_pos a5, if_pos a5, hr _ (by omega), if_neg (show ¬ (i - 200) / 2 = k by omega)]
  rw [if_neg a5, if_neg a5]
/-- of one caller, numbers but those of the ticks change -/
theorem en_uck (hk : k < n) (hn : n ≤ 40) (ho : ∀ i, (∀ w, w < 8 → i ≠ iK k w) → S' i = S i) (h5 : S' (iK k 5) = S (iK k 5)) (h6 : S' (iK k 6) = S (iK k 6)) (hx : x = lN (pkn S' k)) : upd2 (en S n) (100 + 2 * k) x = en S' n := by
  have hj : ∀ j w, j ≠ k → w < 8 → S' (iK j w) = S (iK j w) := fun j w hj hw => ho _ (fun v hv => iK_ne hw hv (fun q => hj q.1))
  refine en_uc (by omega) (fun i hi => ho i (fun w hw => by unfold iK; omega)) (fun j _ => ?_) (fun j _ => ?_)
  · by_cases e : j = k
    · subst e
      rw [if_pos rfl, hx]
      unfold cw
      rw [if_pos hk]
    · rw [if_neg e]
      unfold cw
      rw [pkn_o (fun w hw => hj j w e hw)]
  · by_cases e : j = k
    · subst e
      unfold rr rkn
      rw [h5, h6]
    · unfold rr
      rw [rkn_o (fun w hw => hj j w e hw)]
/-- of one caller, the ticks change -/
theorem en_urk (hk : k < n) (hn : n ≤ 40) (ho : ∀ i, i ≠ iK k 5 → i ≠ iK k 6 → S' i = S i) (hx : x = lN (rkn S' k)) : upd2 (en S n) (200 + 2 * k) x = en S' n := by
  have hj : ∀ j w, j ≠ k → w < 8 → S' (iK j w) = S (iK j w) := fun j w hj hw => ho _ (iK_ne hw (by omega) (fun q => hj q.1)) (iK_ne hw (by omega) (fun q => hj q.1))
  have hw : ∀ j w, w < 8 → w ≠ 5 → w ≠ 6 → S' (iK j w) = S (iK j w) := fun j w hw h5 h6 => ho _ (iK_ne hw (by omega) (fun q => h5 q.2)) (iK_ne hw (by omega) (fun q => h6 q.2))
  refine en_ur (by omega) (fun i hi => ho i (by unfold iK; omega) (by unfold iK; omega)) (fun j _ => ?_) (fun j _ => ?_)
  · unfold cw pkn
    rw [hw j 0 (by omega) (by omega) (by omega), hw j 1 (by omega) (by omega) (by omega), hw j 2 (by omega) (by omega) (by omega), hw j 3 (by omega) (by omega) (by omega), hw j 7 (by omega) (by omega) (by omega), hw j 4 (by omega) (by omega) (by omega)]
  · by_cases e : j = k
    · subst e
      rw [if_pos rfl, hx]
      unfold rr
      rw [if_pos hk]
    · rw [if_neg e]
      unfold rr
      rw [rkn_o (fun w hw => hj j w e hw)]
end EN
/-- a caller's numbers as the law can pack them; A: how often a car could be given so far -/
def qk (S : Nat → Int32) (A k : Nat) : Prop := ∃ f g s b u a x y : Nat, f < 16 ∧ g < 16 ∧ s ≤ 3 ∧ b ≤ 5 ∧ u + (if s = 0 then 1 else 0) ≤ A ∧ a < 1048575 ∧ x < 1048576 ∧ y < 1048576 ∧ (s = 0 → b = 0) ∧ (1 ≤ s → 1 ≤ b) ∧ (s ≠ 3 → y = 0) ∧ S (iK k 0) = nI f ∧ S (iK k 1) = nI g ∧ S (iK k 2) = nI s ∧ S (iK k 3) = qN b ∧ S (iK k 7) = nI u ∧ S (iK k 4) = nI a ∧ S (iK k 5) = qN x ∧ S (iK k 6) = qN y
abbrev qW (S : Nat → Int32) (A n : Nat) : Prop := A < 2048 ∧ ∀ k, k < n → qk S A k
theorem pkn_q {S : Nat → Int32} {k f g s b u a : Nat} (hf : f < 16) (hg : g < 16) (hs : s ≤ 3) (hb : b ≤ 5) (hu : u < 4096) (ha : a < 1048576) (h0 : S (iK k 0) = nI f) (h1 : S (iK k 1) = nI g) (h2 : S (iK k 2) = nI s) (h3 : S (iK k 3) = qN b) (h7 : S (iK k 7) = nI u) (h4 : S (iK k 4) = nI a) : pkn S k = f + 16 * g + 256 * s + 1024 * b + 8192 * u + 16777216 * a := by
  unfold pkn
  rw [h0, h1, h2, h3, h7, h4, qB_N (by omega), show cN (nI f) = f from nI_clamp (by omega), show cN (nI g) = g from nI_clamp (by omega), show cN (nI s) = s from nI_clamp (by omega), show cN (nI u) = u from nI_clamp (by omega), show cN (nI a) = a from nI_clamp (by omega)]
theorem rkn_q {S : Nat → Int32} {k x y : Nat} (hx : x < 1048577) (hy : y < 1048577) (h5 : S (iK k 5) = qN x) (h6 : S (iK k 6) = qN y) : rkn S k = x + 1048576 * y := by
  unfold rkn
  rw [h5, h6, qB_N (by omega), qB_N (by omega)]
/-- what the law reads out of a long -/
abbrev lg_is (x : Int64) : Int32 := (x >>> ((nI 8).toInt64 &&& 63) &&& 3).toInt32
abbrev lg_by (x : Int64) : Int32 := (x >>> ((nI 10).toInt64 &&& 63) &&& 7).toInt32 - nI 1
abbrev lg_fl (x : Int64) : Int32 := (x &&& 15).toInt32
abbrev lg_go (x : Int64) : Int32 := (x >>> ((nI 4).toInt64 &&& 63) &&& 15).toInt32
def qby (S : Nat → Int32) (k : Nat) : Int32 := if S (iK k 3) = -9 then -1 else S (iK k 3)
section QK
variable {S : Nat → Int32} {A k : Nat}
theorem qk_lt (hA : A < 2048) (h : qk S A k) : pkn S k < 2 ^ 62 ∧ rkn S k < 2 ^ 62 := by
  obtain ⟨f, g, s, b, u, a, x, y, hf, hg, hs, hb, hu, ha, hx, hy, -, -, -, h0, h1, h2, h3, h7, h4, h5, h6⟩ := h
  rw [pkn_q hf hg hs hb (by omega) (by omega) h0 h1 h2 h3 h7 h4, rkn_q (by omega) (by omega) h5 h6]
  constructor <;> omega
theorem qk_is (hA : A < 2048) (h : qk S A k) : lg_is (lN (pkn S k)) = S (iK k 2) := by
  have hl := (qk_lt hA h).1
  obtain ⟨f, g, s, b, u, a, x, y, hf, hg, hs, hb, hu, ha, hx, hy, -, -, -, h0, h1, h2, h3, h7, h4, h5, h6⟩ := h
  rw [pkn_q hf hg hs hb (by omega) (by omega) h0 h1 h2 h3 h7 h4] at hl ⊢
  unfold lg_is
  rw [q_shr (by omega) hl, show (3 : Int64) = lN (4 - 1) from rfl, g_mask (s := 2) rfl (by omega) (by have : ∀ z, z / 2 ^ 8 ≤ z := fun z => Nat.div_le_self _ _; have := this (f + 16 * g + 256 * s + 1024 * b + 8192 * u + 16777216 * a); omega), lN_i, h2]
  congr 1
  omega
theorem qk_by (hA : A < 2048) (h : qk S A k) : lg_by (lN (pkn S k)) = qby S k := by
  have hl := (qk_lt hA h).1
  obtain ⟨f, g, s, b, u, a, x, y, hf, hg, hs, hb, hu, ha, hx, hy, -, -, -, h0, h1, h2, h3, h7, h4, h5, h6⟩ := h
  unfold lg_by qby
  rw [h3]
  rw [pkn_q hf hg hs hb (by omega) (by omega) h0 h1 h2 h3 h7 h4] at hl ⊢
  rw [q_shr (by omega) hl, show (7 : Int64) = lN (8 - 1) from rfl, g_mask (s := 3) rfl (by omega) (by have : ∀ z, z / 2 ^ 10 ≤ z := fun z => Nat.div_le_self _ _; have := this (f + 16 * g + 256 * s + 1024 * b + 8192 * u + 16777216 * a); omega), lN_i, show (f + 16 * g + 256 * s + 1024 * b + 8192 * u + 16777216 * a) / 2 ^ 10 % 8 = b by omega]
  unfold qN
  by_cases hb0 : b = 0
  · rw [if_pos hb0, if_pos rfl, hb0]; decide
  · rw [if_neg hb0, if_neg (n9 (by omega)), pk_sub (by omega)]
theorem qk_fl (hA : A < 2048) (h : qk S A k) : lg_fl (lN (pkn S k)) = S (iK k 0) := by
  have hl := (qk_lt hA h).1
  obtain ⟨f, g, s, b, u, a, x, y, hf, hg, hs, hb, hu, ha, hx, hy, -, -, -, h0, h1, h2, h3, h7, h4, h5, h6⟩ := h
  rw [pkn_q hf hg hs hb (by omega) (by omega) h0 h1 h2 h3 h7 h4] at hl ⊢
  unfold lg_fl
  rw [show (15 : Int64) = lN (16 - 1) from rfl, g_mask (s := 4) rfl (by omega) (by omega), lN_i, h0]
  congr 1
  omega
theorem qk_go (hA : A < 2048) (h : qk S A k) : lg_go (lN (pkn S k)) = S (iK k 1) := by
  have hl := (qk_lt hA h).1
  obtain ⟨f, g, s, b, u, a, x, y, hf, hg, hs, hb, hu, ha, hx, hy, -, -, -, h0, h1, h2, h3, h7, h4, h5, h6⟩ := h
  rw [pkn_q hf hg hs hb (by omega) (by omega) h0 h1 h2 h3 h7 h4] at hl ⊢
  unfold lg_go
  rw [q_shr (by omega) hl, show (15 : Int64) = lN (16 - 1) from rfl, g_mask (s := 4) rfl (by omega) (by have : ∀ z, z / 2 ^ 4 ≤ z := fun z => Nat.div_le_self _ _; have := this (f + 16 * g + 256 * s + 1024 * b + 8192 * u + 16777216 * a); omega), lN_i, h1]
  congr 1
  omega
theorem qk_car (h : qk S A k) : S (iK k 3) = -9 ∨ ∃ c, c < 5 ∧ S (iK k 3) = nI c := by
  obtain ⟨f, g, s, b, u, a, x, y, hf, hg, hs, hb, hu, ha, hx, hy, -, -, -, h0, h1, h2, h3, h7, h4, h5, h6⟩ := h
  rw [h3]
  cases b with
  | zero => exact Or.inl rfl
  | succ b => exact Or.inr ⟨b, by omega, qN_s b⟩
theorem qby_c (h : qk S A k) {c : Nat} (hc : c < 2 ^ 31) : qby S k = nI c ↔ S (iK k 3) = nI c := by
  unfold qby
  rcases qk_car h with e | ⟨d, hd, e⟩
  · rw [e, if_pos rfl]
    exact ⟨fun q => absurd q.symm (n1' hc), fun q => absurd q.symm (n9 hc)⟩
  · rw [e, if_neg (n9 (by omega))]
end QK
