/-! ===== between calls: the class's memory G, the house's numbers S, the law's rows en S n ===== -/
def qI (n m t p q A : Nat) (G S : Nat → Int32) : Prop := sp_W n m t S ∧ qW S A n ∧ t ≤ 100 * A ∧ A ≤ 70 ∧ sp_ag G 0 S ∧ p ≤ 5 ∧ q < 5 ∧ G 2646 = nI p ∧ G 2647 = nI q ∧ qZ S n m
/-- an action -/
theorem qI_act {n m t p q A n' m' t' : Nat} {G S S' : Nat → Int32} (I : qI n m t p q A G S) (hA : A + 1 ≤ 70) (w : sp_W n' m' t' S') (hq : qW S' (A + 1) n') (ht : t' ≤ 100 * (A + 1)) (z : qZ S' n' m') : qI n' m' t' (if p = 5 then 5 else p + 1) ((q + 1) % 5) (A + 1) (sp_blk (sp_keepC G p q) 0 S') S' := by
  obtain ⟨-, -, -, -, -, hp5, hq5, -, -, -⟩ := I
  refine ⟨w, hq, ht, hA, sp_blk_ag, by split <;> omega, Nat.mod_lt _ (by omega), ?_, ?_, z⟩
  · rw [sp_blk_out (by omega)]; unfold sp_keepC; rw [gl_upd_eq]
  · rw [sp_blk_out (by omega)]; unfold sp_keepC; rw [gl_upd_ne (by omega), gl_upd_eq]
/-- nothing happens -/
theorem qI_no {n m t p q A : Nat} {G S : Nat → Int32} (I : qI n m t p q A G S) (hA : A + 1 ≤ 70) : qI n m t p q (A + 1) G S := by
  obtain ⟨w, hq, ht, -, a, b, c, d, e, z⟩ := I
  exact ⟨w, q_up (by omega) (by omega) hq, by omega, hA, a, b, c, d, e, z⟩
/-! ===== cars ===== -/
def lgL (v : Nat) : Nat := if 0 < v % 4 then 0 else v / 4 % 15
def lgM (v : Nat) : Nat := if 1 < v % 4 then 15 else 1 + v / 60 % 15
def lgP (v : Nat) : Nat := 1 + v / 900 % 8
def lgH (v t : Nat) : Nat := if v % 3 = 0 then t / 60 % 24 else v / 3 % 24
def lgD (v : Nat) : Nat := if v % 7 = 0 then 100 else 9
theorem lgL_0 {v : Nat} (h : ¬ nI (v % 4) ≤ 0) : nI 0 = nI (lgL v) := by
  rw [← nI_0', nI_leI (by omega) (by omega)] at h
  unfold lgL
  rw [if_pos (by omega)]
theorem lgL_1 {v : Nat} (h : nI (v % 4) ≤ 0) : nI (v / 4 % 15) = nI (lgL v) := by
  rw [← nI_0', nI_leI (by omega) (by omega)] at h
  unfold lgL
  rw [if_neg (by omega)]
theorem lgM_0 {v : Nat} (h : ¬ nI (v % 4) ≤ nI 1) : nI 15 = nI (lgM v) := by
  rw [nI_leI (by omega) (by omega)] at h
  unfold lgM
  rw [if_pos (by omega)]
theorem lgM_1 {v : Nat} (h : nI (v % 4) ≤ nI 1) : nI (1 + v / 60 % 15) = nI (lgM v) := by
  rw [nI_leI (by omega) (by omega)] at h
  unfold lgM
  rw [if_neg (by omega)]
theorem lgH_0 {v t : Nat} (h : nI (v % 3) = 0) : nI (t / 60 % 24) = nI (lgH v t) := by
  unfold lgH
  rw [if_pos (nI_z (by omega) h)]
theorem lgH_1 {v t : Nat} (h : ¬ nI (v % 3) = 0) : nI (v / 3 % 24) = nI (lgH v t) := by
  unfold lgH
  rw [if_neg (fun z => h (by rw [z]; exact nI_0'))]
theorem lgD_0 {v : Nat} (h : nI (v % 7) = 0) : nI 100 = nI (lgD v) := by
  unfold lgD
  rw [if_pos (nI_z (by omega) h)]
theorem lgD_1 {v : Nat} (h : ¬ nI (v % 7) = 0) : nI 9 = nI (lgD v) := by
  unfold lgD
  rw [if_neg (fun z => h (by rw [z]; exact nI_0'))]
theorem lgL_lt (v : Nat) : lgL v < 15 := by unfold lgL; split <;> omega
theorem lgM_lt (v : Nat) : lgM v < 16 := by unfold lgM; split <;> omega
theorem lgH_lt (v t : Nat) : lgH v t < 24 := by unfold lgH; split <;> omega
theorem lgD_lt (v : Nat) : 0 < lgD v ∧ lgD v ≤ 100 := by unfold lgD; split <;> omega
theorem isf_n {f : Nat} (h : f < 16) : sp_isf (nI f) := ⟨nI_pos (by omega), nI_ge h (by omega)⟩
theorem inr_n {a b x : Nat} (ha : a ≤ x) (hb : x ≤ b) (h : b < 2 ^ 31) : sp_inr (nI x) (nI a) (nI b) := ⟨nI_nlt ha (by omega), nI_nlt hb h⟩
theorem has_n {c m : Nat} (h : c < m) (hm : m < 2 ^ 31) : sp_has (nI c) (nI m) := ⟨nI_pos (by omega), nI_ge h hm⟩
theorem fl_n {f : Nat} (h : f < 16) : sp_fl (nI f) := ⟨f, h, rfl⟩
theorem okC_n {v : Nat} (h : lgL v < lgM v) : sp_okC (nI (lgL v)) (nI (lgM v)) (nI (lgP v)) := by
  have h1 := lgL_lt v
  have h2 := lgM_lt v
  refine ⟨isf_n (by omega), isf_n h2, fun z => ?_, inr_n (by unfold lgP; omega) (by unfold lgP; omega) (by omega)⟩
  rw [nI_leI (by omega) (by omega)] at z
  omega
theorem okC_no {v : Nat} (h : ¬ lgL v < lgM v) : ¬ sp_okC (nI (lgL v)) (nI (lgM v)) (nI (lgP v)) := fun z => z.2.2.1 (by
  have h1 := lgL_lt v
  have h2 := lgM_lt v
  rw [nI_leI (by omega) (by omega)]
  omega)
/-- a new car's numbers, one behind the other -/
def lg_val (lo hi pl : Int32) (k : Nat) : Int32 := if k = 0 ∨ k = 3 then lo else if k = 1 then hi else if k = 2 then pl else nI 0
def lg_add (S : Nat → Int32) (m : Nat) (lo hi pl : Int32) : Nat → Nat → Int32
  | 0 => S
  | k + 1 => upd (lg_add S m lo hi pl k) (iC m k) (lg_val lo hi pl k)
theorem lg_add6 {S : Nat → Int32} {m : Nat} {lo hi pl : Int32} : upd (lg_add S m lo hi pl 6) 1 (nI (m + 1)) = sp_addC S m lo hi pl := rfl
theorem lg_add_lo {S : Nat → Int32} {m i : Nat} {lo hi pl : Int32} (hi' : i < 28) : ∀ k, lg_add S m lo hi pl k i = S i := by
  intro k
  induction k with
  | zero => rfl
  | succ k ih => simp only [lg_add]; rw [gl_upd_ne (by unfold iC; omega)]; exact ih
theorem q_add {S : Nat → Int32} {A n m : Nat} {lo hi pl : Int32} (hm : m < 5) (q : qW S A n) : qW (sp_addC S m lo hi pl) A n := by
  unfold sp_addC
  have h : ∀ w, w < 6 → iC m w < 58 := fun w hw => by unfold iC; omega
  exact q_lo (by omega) (q_lo (h 5 (by omega)) (q_lo (h 4 (by omega)) (q_lo (h 3 (by omega)) (q_lo (h 2 (by omega)) (q_lo (h 1 (by omega)) (q_lo (h 0 (by omega)) q))))))
theorem sp_addC_lo {M : Nat → Int32} {m : Nat} {lo hi pl : Int32} {i : Nat} (h1 : i ≠ 1) (hi' : ∀ w, w < 6 → i ≠ iC m w) : sp_addC M m lo hi pl i = M i := by
  unfold sp_addC
  rw [gl_upd_ne h1, oC (by omega) hi', oC (by omega) hi', oC (by omega) hi', oC (by omega) hi', oC (by omega) hi', oC (by omega) hi']
theorem sp_addC_at {S : Nat → Int32} {m : Nat} {lo hi pl : Int32} : sp_addC S m lo hi pl (iC m 0) = lo ∧ sp_addC S m lo hi pl (iC m 1) = hi ∧ sp_addC S m lo hi pl (iC m 2) = pl ∧ sp_addC S m lo hi pl (iC m 3) = lo := by
  have n1 : ∀ v, iC m v ≠ 1 := fun v => by unfold iC; omega
  unfold sp_addC
  refine ⟨?_, ?_, ?_, ?_⟩
  · rw [gl_upd_ne (n1 _), rC (by omega) (by omega) (by omega), rC (by omega) (by omega) (by omega), rC (by omega) (by omega) (by omega), rC (by omega) (by omega) (by omega), rC (by omega) (by omega) (by omega), gl_upd_eq]
  · rw [gl_upd_ne (n1 _), rC (by omega) (by omega) (by omega), rC (by omega) (by omega) (by omega), rC (by omega) (by omega) (by omega), rC (by omega) (by omega) (by omega), gl_upd_eq]
  · rw [gl_upd_ne (n1 _), rC (by omega) (by omega) (by omega), rC (by omega) (by omega) (by omega), rC (by omega) (by omega) (by omega), gl_upd_eq]
  · rw [gl_upd_ne (n1 _), rC (by omega) (by omega) (by omega), rC (by omega) (by omega) (by omega), gl_upd_eq]
theorem sp_addC_W {n m t : Nat} {M : Nat → Int32} (w : sp_W n m t M) (hm : m < 5) {lo hi pl : Int32} (hl : sp_fl lo) (hh : sp_fl hi) (hp : sp_inr pl (nI 1) (nI 8)) : sp_W n (m + 1) t (sp_addC M m lo hi pl) := by
  obtain ⟨h1, h2, h3, h4, h5, h6, h7⟩ := w
  obtain ⟨a0, a1, a2, a3⟩ := sp_addC_at (S := M) (m := m) (lo := lo) (hi := hi) (pl := pl)
  refine ⟨h1, by omega, ?_, by unfold sp_addC; rw [gl_upd_eq], ?_, fun c hc => ?_, fun k hk => ?_⟩
  · rw [sp_addC_lo (by omega) (fun w _ => by unfold iC; omega)]; exact h3
  · rw [sp_addC_lo (by omega) (fun w _ => by unfold iC; omega)]; exact h5
  · by_cases hcm : c < m
    · have r : ∀ w, w < 6 → sp_addC M m lo hi pl (iC c w) = M (iC c w) := fun w hw => sp_addC_lo (by unfold iC; omega) (fun v hv => iC_ne hw hv (by omega))
      have := h6 c hcm
      unfold sp_car at this ⊢
      rw [r 0 (by omega), r 1 (by omega), r 3 (by omega), r 2 (by omega)]
      exact this
    · have e : c = m := by omega
      subst e
      obtain ⟨x, x1, x2, rfl⟩ := sp_inr_n (by omega) (by omega) hp
      unfold sp_car
      rw [a0, a1, a2, a3]
      exact ⟨hl, hh, hl, x, x1, x2, rfl⟩
  · have r : ∀ w, w < 8 → sp_addC M m lo hi pl (iK k w) = M (iK k w) := fun w hw => sp_addC_lo (by unfold iK; omega) (fun v hv => fun q => iCK (by omega) hv q.symm)
    have := h7 k hk
    unfold sp_cal at this ⊢
    rw [r 0 (by omega), r 1 (by omega), r 2 (by omega), r 6 (by omega)]
    exact this
theorem z_addC {n m t : Nat} {S : Nat → Int32} (w : sp_W n m t S) (z : qZ S n m) (hm : m < 5) {lo hi p : Nat} (hl : lo < hi) (hh : hi < 16) : qZ (sp_addC S m (nI lo) (nI hi) (nI p)) n (m + 1) := by
  obtain ⟨a0, a1, a2, a3⟩ := sp_addC_at (S := S) (m := m) (lo := nI lo) (hi := nI hi) (pl := nI p)
  have rC' : ∀ c w, c < m → w < 6 → sp_addC S m (nI lo) (nI hi) (nI p) (iC c w) = S (iC c w) := fun c w hc hw => sp_addC_lo (by unfold iC; omega) (fun v hv => iC_ne hw hv (by omega))
  have rK' : ∀ k w, w < 8 → sp_addC S m (nI lo) (nI hi) (nI p) (iK k w) = S (iK k w) := fun k w hw => sp_addC_lo (by unfold iK; omega) (fun v hv => fun q => iCK (by omega) hv q.symm)
  refine ⟨fun c hc => ?_, fun k hk h => ?_⟩
  · rw [sp_ofN_o (S := S) n (fun k _ => ⟨rK' k 2 (by omega), rK' k 3 (by omega)⟩)]
    by_cases hcm : c < m
    · unfold sp_serves
      rw [rC' c 0 hcm (by omega), rC' c 1 hcm (by omega), rC' c 3 hcm (by omega), rC' c 2 hcm (by omega)]
      exact z.1 c hcm
    · have e : c = m := by omega
      subst e
      refine ⟨?_, ?_⟩
      · unfold sp_serves
        rw [a0, a1, a3, nI_ltI (by omega) (by omega), nI_ltI (by omega) (by omega)]
        omega
      · have : ∀ k, k ≤ n → sp_ofN S (nI c) (nI 2) k = 0 := by
          intro k
          induction k with
          | zero => intro _; rfl
          | succ k ih =>
            intro hk
            simp only [sp_ofN]
            rw [if_neg, ih (by omega)]
            rintro ⟨h1, h2⟩
            obtain ⟨d, hd, e, _⟩ := z.2 k (by omega) (Or.inr h1)
            have := (nI_eq (a := c) (b := d) (by omega) (by omega)).mp (h2.symm.trans e)
            omega
        rw [this n (Nat.le_refl _)]
        exact Nat.zero_le _
  · rw [rK' k 2 (by omega)] at h ⊢
    obtain ⟨c, h1, h2, h3, h4⟩ := z.2 k hk h
    refine ⟨c, by omega, ?_⟩
    unfold sp_serves at h3 h4 ⊢
    rw [rK' k 3 (by omega), rK' k 1 (by omega), rK' k 0 (by omega), rC' c 0 h1 (by omega), rC' c 1 h1 (by omega)]
    exact ⟨h2, h3, h4⟩
theorem sp_W_aw {n m t : Nat} {M : Nat → Int32} (w : sp_W n m t M) {c : Nat} (hc : c < 24) (x : Int32) : sp_W n m t (upd M (4 + c) x) := by
  obtain ⟨h1, h2, h3, h4, h5, h6, h7⟩ := w
  have e : ∀ i, i < 4 ∨ 28 ≤ i → upd M (4 + c) x i = M i := fun i hi => gl_upd_ne (by omega)
  refine ⟨h1, h2, by rw [e _ (by omega)]; exact h3, by rw [e _ (by omega)]; exact h4, by rw [e _ (by omega)]; exact h5, fun c' hc' => ?_, fun k hk => ?_⟩
  · have := h6 c' hc'
    unfold sp_car at this ⊢
    rw [e _ (by unfold iC; omega), e _ (by unfold iC; omega), e _ (by unfold iC; omega), e _ (by unfold iC; omega)]
    exact this
  · have := h7 k hk
    unfold sp_cal at this ⊢
    rw [e _ (by unfold iK; omega), e _ (by unfold iK; omega), e _ (by unfold iK; omega), e _ (by unfold iK; omega)]
    exact this
/-! ===== a call ===== -/
def sp_addK1 (M : Nat → Int32) (n : Nat) (f g tk : Int32) : Nat → Int32 := upd (upd (upd (upd (upd (upd (upd (upd M (iK n 0) f) (iK n 1) g) (iK n 2) (nI 0)) (iK n 3) (-9)) (iK n 4) tk) (iK n 5) (-9)) (iK n 6) (-9)) (iK n 7) (nI 0)
theorem sp_addK1_2 {M : Nat → Int32} {n : Nat} {f g tk : Int32} : upd (sp_addK1 M n f g tk) 2 (nI (n + 1)) = sp_addK M n f g tk := rfl
theorem addK1_o {M : Nat → Int32} {n i : Nat} {f g tk : Int32} (hi : ∀ w, w < 8 → i ≠ iK n w) : sp_addK1 M n f g tk i = M i := by
  unfold sp_addK1
  rw [oK (by omega) hi, oK (by omega) hi, oK (by omega) hi, oK (by omega) hi, oK (by omega) hi, oK (by omega) hi, oK (by omega) hi, oK (by omega) hi]
theorem addK1_at {M : Nat → Int32} {n : Nat} {f g tk : Int32} : sp_addK1 M n f g tk (iK n 0) = f ∧ sp_addK1 M n f g tk (iK n 1) = g ∧ sp_addK1 M n f g tk (iK n 2) = nI 0 ∧ sp_addK1 M n f g tk (iK n 3) = -9 ∧ sp_addK1 M n f g tk (iK n 4) = tk ∧ sp_addK1 M n f g tk (iK n 5) = -9 ∧ sp_addK1 M n f g tk (iK n 6) = -9 ∧ sp_addK1 M n f g tk (iK n 7) = nI 0 := by
  unfold sp_addK1
  refine ⟨?_, ?_, ?_, ?_, ?_, ?_, ?_, ?_⟩
  · rw [rK (by omega) (by omega) (by omega), rK (by omega) (by omega) (by omega), rK (by omega) (by omega) (by omega), rK (by omega) (by omega) (by omega), rK (by omega) (by omega) (by omega), rK (by omega) (by omega) (by omega), rK (by omega) (by omega) (by omega), gl_upd_eq]
  · rw [rK (by omega) (by omega) (by omega), rK (by omega) (by omega) (by omega), rK (by omega) (by omega) (by omega), rK (by omega) (by omega) (by omega), rK (by omega) (by omega) (by omega), rK (by omega) (by omega) (by omega), gl_upd_eq]
  · rw [rK (by omega) (by omega) (by omega), rK (by omega) (by omega) (by omega), rK (by omega) (by omega) (by omega), rK (by omega) (by omega) (by omega), rK (by omega) (by omega) (by omega), gl_upd_eq]
  · rw [rK (by omega) (by omega) (by omega), rK (by omega) (by omega) (by omega), rK (by omega) (by omega) (by omega), rK (by omega) (by omega) (by omega), gl_upd_eq]
  · rw [rK (by omega) (by omega) (by omega), rK (by omega) (by omega) (by omega), rK (by omega) (by omega) (by omega), gl_upd_eq]
  · rw [rK (by omega) (by omega) (by omega), rK (by omega) (by omega) (by omega), gl_upd_eq]
  · rw [rK (by omega) (by omega) (by omega), gl_upd_eq]
  · rw [gl_upd_eq]
theorem qk_add {S : Nat → Int32} {n A f g t : Nat} (hA : 1 ≤ A) (hf : f < 16) (hg : g < 16) (ht : t < 1048575) : qk (sp_addK1 S n (nI f) (nI g) (nI t)) A n := by
  obtain ⟨a0, a1, a2, a3, a4, a5, a6, a7⟩ := addK1_at (M := S) (n := n) (f := nI f) (g := nI g) (tk := nI t)
  exact ⟨f, g, 0, 0, 0, t, 0, 0, hf, hg, by omega, by omega, by simp; omega, ht, by omega, by omega, fun _ => rfl, fun z => by omega, fun _ => rfl, a0, a1, a2, a3, a7, a4, a5, a6⟩
theorem q_addK {S : Nat → Int32} {n A f g t : Nat} (q : qW S A n) (hA : 1 ≤ A) (hf : f < 16) (hg : g < 16) (ht : t < 1048575) : qW (sp_addK S n (nI f) (nI g) (nI t)) A (n + 1) := by
  rw [← sp_addK1_2]
  refine q_lo (by omega) ⟨q.1, fun k hk => ?_⟩
  by_cases e : k = n
  · subst e; exact qk_add hA hf hg ht
  · exact qk_o (fun w hw => addK1_o (fun v hv => iK_ne hw hv (fun z => e z.1))) (q.2 k (by omega))
theorem lg_new_mem {S : Nat → Int32} {n f g t : Nat} (hn : n < 40) (hf : f < 16) (hg : g < 16) (ht : t < 1048575) : upd2 (en S n) (100 + 2 * n) ((nI f ||| nI g <<< (nI 4 &&& 31)).toInt64 ||| (nI t).toInt64 <<< ((nI 24).toInt64 &&& 63)) = en (sp_addK1 S n (nI f) (nI g) (nI t)) (n + 1) := by
  obtain ⟨a0, a1, a2, a3, a4, a5, a6, a7⟩ := addK1_at (M := S) (n := n) (f := nI f) (g := nI g) (tk := nI t)
  have ep := pkn_q (S := sp_addK1 S n (nI f) (nI g) (nI t)) (k := n) (f := f) (g := g) (s := 0) (b := 0) (u := 0) (a := t) hf hg (by omega) (by omega) (by omega) (by omega) a0 a1 a2 a3 a7 a4
  have er := rkn_q (S := sp_addK1 S n (nI f) (nI g) (nI t)) (k := n) (x := 0) (y := 0) (by omega) (by omega) a5 a6
  have ej : ∀ j w, j ≠ n → w < 8 → sp_addK1 S n (nI f) (nI g) (nI t) (iK j w) = S (iK j w) := fun j w hj hw => addK1_o (fun v hv => iK_ne hw hv (fun z => hj z.1))
  refine en_uc hn (fun i hi => addK1_o (fun v hv => by unfold iK; omega)) (fun j _ => ?_) (fun j _ => ?_)
  · by_cases e : j = n
    · subst e
      rw [if_pos rfl]
      unfold cw
      rw [if_pos (by omega), ep]
      have h1 : nI f ||| nI g <<< (nI 4 &&& 31) = nI (16 * g + f) := by
        have : ∀ f, f < 16 → ∀ g, g < 16 → nI f ||| nI g <<< (nI 4 &&& 31) = nI (16 * g + f) := by decide +kernel
        exact this f hf g hg
      rw [h1, nI_l (by omega), nI_l (by omega), wb_shl _ (by omega), Int64.or_comm, g_or (k := 24) (p := 2 ^ 24) rfl (by omega) (by omega)]
      congr 1
      omega
    · rw [if_neg e]
      unfold cw
      rw [pkn_o (fun w hw => ej j w e hw)]
      by_cases h : j < n
      · rw [if_pos h, if_pos (by omega)]
      · rw [if_neg h, if_neg (by omega)]
  · unfold rr
    by_cases e : j = n
    · subst e
      rw [if_pos (by omega), if_neg (by omega), er]
      rfl
    · rw [rkn_o (fun w hw => ej j w e hw)]
      by_cases h : j < n
      · rw [if_pos h, if_pos (by omega)]
      · rw [if_neg h, if_neg (by omega)]
theorem lg_zero_mem {S : Nat → Int32} {n f g t : Nat} (hn : n < 40) : upd2 (en (sp_addK1 S n (nI f) (nI g) (nI t)) (n + 1)) (200 + 2 * n) 0 = en (sp_addK1 S n (nI f) (nI g) (nI t)) (n + 1) := by
  obtain ⟨a0, a1, a2, a3, a4, a5, a6, a7⟩ := addK1_at (M := S) (n := n) (f := nI f) (g := nI g) (tk := nI t)
  refine en_urk (by omega) (by omega) (fun i _ _ => rfl) ?_
  rw [rkn_q (x := 0) (y := 0) (by omega) (by omega) a5 a6]
  rfl
theorem z_addK {n m : Nat} {S : Nat → Int32} (hm5 : m ≤ 5) (z : qZ S n m) {f g tk : Int32} : qZ (sp_addK S n f g tk) (n + 1) m := by
  rw [← sp_addK1_2]
  refine z_st ?_ (Or.inl (by omega))
  obtain ⟨a0, a1, a2, a3, a4, a5, a6, a7⟩ := addK1_at (M := S) (n := n) (f := f) (g := g) (tk := tk)
  have hC : ∀ c w, c < 5 → w < 6 → sp_addK1 S n f g tk (iC c w) = S (iC c w) := fun c w h1 h2 => addK1_o (fun v hv => iCK h1 h2)
  have hK : ∀ j w, j ≠ n → w < 8 → sp_addK1 S n f g tk (iK j w) = S (iK j w) := fun j w h1 h2 => addK1_o (fun v hv => iK_ne h2 hv (fun q => h1 q.1))
  refine ⟨fun c hc => ?_, fun k hk h => ?_⟩
  · have e : sp_ofN (sp_addK1 S n f g tk) (nI c) (nI 2) (n + 1) = sp_ofN S (nI c) (nI 2) n := by
      simp only [sp_ofN]
      rw [if_neg (fun q => n00 (a2.symm.trans q.1))]
      exact sp_ofN_o n (fun k hk => ⟨hK k 2 (by omega) (by omega), hK k 3 (by omega) (by omega)⟩)
    unfold sp_serves
    rw [e, hC c 0 (by omega) (by omega), hC c 1 (by omega) (by omega), hC c 3 (by omega) (by omega), hC c 2 (by omega) (by omega)]
    exact z.1 c hc
  · by_cases e : k = n
    · subst e
      rw [a2] at h
      exact absurd h (fun q => q.elim n01 n00)
    · rw [hK k 2 e (by omega)] at h ⊢
      obtain ⟨c, h1, h2, h3, h4⟩ := z.2 k (by omega) h
      refine ⟨c, h1, ?_⟩
      unfold sp_serves at h3 h4 ⊢
      rw [hK k 3 e (by omega), hK k 1 e (by omega), hK k 0 e (by omega), hC c 0 (by omega) (by omega), hC c 1 (by omega) (by omega)]
      exact ⟨h2, h3, h4⟩
theorem q_fail {S : Nat → Int32} {A n m t c : Nat} (q : qW S A n) (hA : A + 1 < 2048) (ht : t < 1048575) (hc : c < m) (hc5 : c < 5) (w : sp_W n m t S) : qW (sp_fail S c t n) (A + 1) n := by
  obtain ⟨o, ho, eo⟩ := (w.2.2.2.2.2.1 c hc).2.2.1
  unfold sp_fail
  rw [eo]
  exact ⟨hA, (q_lose (q_lo (i := iC c 4) (x := nI 2) (by unfold iC; omega) q) hA ht (cc := nI c) ho n (Nat.le_refl _)).2.1⟩
theorem lowA (x : Int32) {d : Nat} (h : 0 < d) : lg_low x d < d := Nat.mod_lt _ h
