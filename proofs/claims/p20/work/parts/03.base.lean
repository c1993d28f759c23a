/-! ===== the flat memory: a world of cells whose whole contents are one function M of numbers; 'lay' says which number stands where ===== -/
/-- two numbers as a long, and back -/
def gl_mk (a b : Int32) : Int64 := Int64.ofBitVec (a.toBitVec ++ b.toBitVec)
def gl_hi (x : Int64) : Int32 := Int32.ofBitVec (x.toBitVec.extractLsb' 32 32)
def gl_lo (x : Int64) : Int32 := Int32.ofBitVec (x.toBitVec.extractLsb' 0 32)
theorem gl_mk_ok (x : Int64) : gl_mk (gl_hi x) (gl_lo x) = x := by
  unfold gl_mk gl_hi gl_lo
  apply Int64.toBitVec_inj.1
  show (x.toBitVec.extractLsb' 32 32 ++ x.toBitVec.extractLsb' 0 32 : BitVec (32 + 32)) = x.toBitVec
  apply BitVec.eq_of_getLsbD_eq
  intro i hi
  rw [BitVec.getLsbD_append]
  by_cases h : i < 32
  · rw [if_pos h, BitVec.getLsbD_extractLsb']; simp [h]
  · rw [if_neg h, BitVec.getLsbD_extractLsb']; simp; rw [show 32 + (i - 32) = i by omega]; rw [decide_eq_true (show i - 32 < 32 by omega), Bool.true_and]
/-- the long that stands at number i and the next -/
def gl_lg (M : Nat → Int32) (i : Nat) : Int64 := gl_mk (M i) (M (i + 1))
def upd2 (M : Nat → Int32) (i : Nat) (x : Int64) : Nat → Int32 := upd (upd M i (gl_hi x)) (i + 1) (gl_lo x)
/-- a cell: a row of numbers (how long, which number at each place), an object (its class, its fields: a number or a cell), a row of cells, a row of longs -/
abbrev gl_Ce : Type := (Nat × (Nat → Nat)) ⊕ ((Nat × List (Nat ⊕ Nat)) ⊕ ((Nat × (Nat → Nat)) ⊕ (Nat × (Nat → Nat))))
/-- launch, classes and slots, class of int[], of House[], of long[], addresses -/
abbrev gl_F : Type := Launch × va_G × ClassId × (ClassId × ClassId) × (Nat → Nat)
def gl_r (F : gl_F) : Nat → Nat := F.2.2.2.2
def gl_v (F : gl_F) (M : Nat → Int32) : Nat ⊕ Nat → Value
  | .inl i => .int (M i)
  | .inr c => .ref (gl_r F c)
def gl_e (F : gl_F) (M : Nat → Int32) : gl_Ce → va_E
  | .inl (n, f) => .inl (F.2.2.1, n, .inl (fun i => if i < n then M (f i) else 0))
  | .inr (.inl (ci, fs)) => .inr (ci, fs.map (gl_v F M))
  | .inr (.inr (.inl (n, g))) => .inl (F.2.2.2.1.1, n, .inr (.inr (.inr (.inr (fun i => if i < n then some (gl_r F (g i)) else none)))))
  | .inr (.inr (.inr (n, f))) => .inl (F.2.2.2.1.2, n, .inr (.inl (fun i => if i < n then gl_lg M (f i) else 0)))
def gl_w (F : gl_F) (lay : List gl_Ce) (M : Nat → Int32) : va_W := lay.mapIdx (fun j c => (gl_r F j, gl_e F M c))
def gl_A (F : gl_F) (lay : List gl_Ce) : Nat → Prop := fun q => ∃ j, j < lay.length ∧ q = gl_r F j
def gl_inj (F : gl_F) (lay : List gl_Ce) : Prop := ∀ i j, i < lay.length → j < lay.length → gl_r F i = gl_r F j → i = j
def gl_tys (F : gl_F) : List (ClassId × FieldType) := [(F.2.2.1, .int), (F.2.2.2.1.1, .object "GoalLifts$House"), (F.2.2.2.1.2, .long)]
/-- the number that stands at place k of a cell -/
def gl_at : gl_Ce → Nat → Option Nat
  | .inl (n, f), k => if k < n then some (f k) else none
  | .inr (.inl (_, fs)), k => match fs[k]? with
    | some (.inl i) => some i
    | _ => none
  | .inr (.inr (.inl _)), _ => none
  | .inr (.inr (.inr (n, f))), k => if k < 2 * n then some (f (k / 2) + k % 2) else none
def gl_sz : gl_Ce → Nat
  | .inl (n, _) => n
  | .inr (.inl (_, fs)) => fs.length
  | .inr (.inr (.inl (n, _))) => n
  | .inr (.inr (.inr (n, _))) => 2 * n
/-- no number stands twice; the rows are of a size that an index reaches -/
def gl_ok (lay : List gl_Ce) : Prop := (∃ ow : Nat → Nat × Nat, ∀ (j : Nat) (c : gl_Ce) (k i : Nat), lay[j]? = some c → gl_at c k = some i → ow i = (j, k)) ∧ ∀ (j : Nat) (c : gl_Ce), lay[j]? = some c → gl_sz c < 2 ^ 31
def gl_chk (ow : Nat → Nat × Nat) (lay : List gl_Ce) : Bool :=
  lay.zipIdx.all (fun q => decide (gl_sz q.1 < 2147483648) && (List.range (gl_sz q.1)).all fun k => match gl_at q.1 k with
    | some i => decide (ow i = (q.2, k))
    | none => true)
theorem gl_at_lt {c : gl_Ce} {k i : Nat} (h : gl_at c k = some i) : k < gl_sz c := by
  obtain ⟨n, f⟩ | ⟨ci, fs⟩ | ⟨n, g⟩ | ⟨n, f⟩ := c
  · simp only [gl_at] at h
    by_cases hk : k < n
    · exact hk
    · rw [if_neg hk] at h; cases h
  · simp only [gl_at] at h
    cases hf : fs[k]? with
    | none => rw [hf] at h; cases h
    | some x => exact (List.getElem?_eq_some_iff.mp hf).1
  · simp [gl_at] at h
  · simp only [gl_at] at h
    by_cases hk : k < 2 * n
    · exact hk
    · rw [if_neg hk] at h; cases h
theorem gl_ok_of {ow : Nat → Nat × Nat} {lay : List gl_Ce} (h : gl_chk ow lay = true) : gl_ok lay := by
  have hm : ∀ (j : Nat) (c : gl_Ce), lay[j]? = some c → (c, j) ∈ lay.zipIdx := by
    intro j c hj
    exact List.mk_mem_zipIdx_iff_getElem?.mpr hj
  refine ⟨⟨ow, fun j c k i hj hk => ?_⟩, fun j c hj => ?_⟩
  · have h1 := List.all_eq_true.mp h _ (hm j c hj)
    simp only [Bool.and_eq_true] at h1
    have h2 := List.all_eq_true.mp h1.2 k (List.mem_range.mpr (gl_at_lt hk))
    rw [hk] at h2
    simpa using h2
  · have h1 := List.all_eq_true.mp h _ (hm j c hj)
    simp only [Bool.and_eq_true, decide_eq_true_eq] at h1
    exact h1.1
theorem gl_w_at {F : gl_F} {lay : List gl_Ce} {M : Nat → Int32} {j : Nat} {c : gl_Ce} (h : lay[j]? = some c) : (gl_w F lay M)[j]? = some (gl_r F j, gl_e F M c) := by
  unfold gl_w
  rw [List.getElem?_mapIdx, h]
  rfl
theorem gl_w_len {F : gl_F} {lay : List gl_Ce} {M : Nat → Int32} : (gl_w F lay M).length = lay.length := by
  unfold gl_w
  exact List.length_mapIdx
theorem gl_w_inv {F : gl_F} {lay : List gl_Ce} {M : Nat → Int32} {j : Nat} {q : Nat × va_E} (h : (gl_w F lay M)[j]? = some q) : ∃ c, lay[j]? = some c ∧ q = (gl_r F j, gl_e F M c) := by
  unfold gl_w at h
  rw [List.getElem?_mapIdx] at h
  cases hc : lay[j]? with
  | none => rw [hc] at h; cases h
  | some c => rw [hc] at h; exact ⟨c, rfl, (Option.some.inj h).symm⟩
/-- a number that isn't in a cell can change -/
theorem gl_e_upd {F : gl_F} {M M' : Nat → Int32} {c : gl_Ce} (h : ∀ k i, gl_at c k = some i → M' i = M i) : gl_e F M' c = gl_e F M c := by
  obtain ⟨n, f⟩ | ⟨ci, fs⟩ | ⟨n, g⟩ | ⟨n, f⟩ := c
  · have e : (fun i => if i < n then M' (f i) else 0) = (fun i => if i < n then M (f i) else 0) := by
      funext i
      by_cases hi : i < n
      · rw [if_pos hi, if_pos hi]
        exact h i (f i) (by simp only [gl_at]; rw [if_pos hi])
      · rw [if_neg hi, if_neg hi]
    simp only [gl_e, e]
  · have e : fs.map (gl_v F M') = fs.map (gl_v F M) := by
      apply List.ext_getElem?
      intro k
      rw [List.getElem?_map, List.getElem?_map]
      cases hf : fs[k]? with
      | none => rfl
      | some x =>
        cases x with
        | inl i =>
          have := h k i (by simp only [gl_at]; rw [hf])
          simp only [Option.map_some, gl_v, this]
        | inr c => rfl
    simp only [gl_e, e]
  · rfl
  · have e : (fun i => if i < n then gl_lg M' (f i) else 0) = (fun i => if i < n then gl_lg M (f i) else 0) := by
      funext i
      by_cases hi : i < n
      · rw [if_pos hi, if_pos hi]
        unfold gl_lg
        rw [h (2 * i) (f i) (by simp only [gl_at]; rw [if_pos (by omega), show 2 * i / 2 = i by omega, show 2 * i % 2 = 0 by omega]; rfl), h (2 * i + 1) (f i + 1) (by simp only [gl_at]; rw [if_pos (by omega), show (2 * i + 1) / 2 = i by omega, show (2 * i + 1) % 2 = 1 by omega])]
      · rw [if_neg hi, if_neg hi]
    simp only [gl_e, e]
theorem gl_upd_ne {M : Nat → Int32} {i j : Nat} {x : Int32} (h : j ≠ i) : upd M i x j = M j := by
  unfold upd
  rw [if_neg h]
theorem gl_upd_eq {M : Nat → Int32} {i : Nat} {x : Int32} : upd M i x i = x := by
  unfold upd
  rw [if_pos rfl]
theorem gl_set_arr {F : gl_F} {lay : List gl_Ce} {M : Nat → Int32} (hok : gl_ok lay) {j n k : Nat} {f : Nat → Nat} (hj : lay[j]? = some (.inl (n, f))) (hk : k < n) (x : Int32) :
    (gl_w F lay M).set j (gl_r F j, .inl (F.2.2.1, n, .inl (upd (fun i => if i < n then M (f i) else 0) k x))) = gl_w F lay (upd M (f k) x) := by
  obtain ⟨⟨ow, how⟩, -⟩ := hok
  have h0 : ow (f k) = (j, k) := how j _ k (f k) hj (by simp only [gl_at]; rw [if_pos hk])
  apply List.ext_getElem?
  intro j'
  by_cases hjj : j' = j
  · subst hjj
    rw [List.getElem?_set_self (by rw [gl_w_len]; exact (List.getElem?_eq_some_iff.mp hj).1), gl_w_at hj]
    have e : upd (fun i => if i < n then M (f i) else 0) k x = (fun i => if i < n then upd M (f k) x (f i) else 0) := by
      funext i
      unfold upd
      by_cases hi : i = k
      · subst hi
        rw [if_pos rfl, if_pos hk, if_pos rfl]
      · rw [if_neg hi]
        by_cases hin : i < n
        · show (if i < n then M (f i) else 0) = _
          rw [if_pos hin, if_pos hin, if_neg]
          intro hf
          have h1 : ow (f i) = (j', i) := how j' _ i (f i) hj (by simp only [gl_at]; rw [if_pos hin])
          rw [hf, h0] at h1
          exact hi (Prod.mk.inj h1).2.symm
        · show (if i < n then M (f i) else 0) = _
          rw [if_neg hin, if_neg hin]
    simp only [gl_e, e]
  · rw [List.getElem?_set_ne (Ne.symm hjj)]
    cases hc : lay[j']? with
    | none =>
      rw [List.getElem?_eq_none (by rw [gl_w_len]; exact List.getElem?_eq_none_iff.mp hc), List.getElem?_eq_none (by rw [gl_w_len]; exact List.getElem?_eq_none_iff.mp hc)]
    | some c =>
      rw [gl_w_at hc, gl_w_at hc]
      rw [gl_e_upd (c := c) (M := M) (M' := upd M (f k) x)]
      intro k' i hi
      apply gl_upd_ne
      intro e
      have h1 := how j' c k' i hc hi
      rw [e, h0] at h1
      exact hjj (Prod.mk.inj h1).1.symm
theorem gl_set_fld {F : gl_F} {lay : List gl_Ce} {M : Nat → Int32} (hok : gl_ok lay) {j ci k i : Nat} {fs : List (Nat ⊕ Nat)} (hj : lay[j]? = some (.inr (.inl (ci, fs)))) (hk : fs[k]? = some (.inl i)) (x : Int32) :
    (gl_w F lay M).set j (gl_r F j, .inr (ci, (fs.map (gl_v F M)).set k (.int x))) = gl_w F lay (upd M i x) := by
  obtain ⟨⟨ow, how⟩, -⟩ := hok
  have h0 : ow i = (j, k) := how j _ k i hj (by simp only [gl_at]; rw [hk])
  apply List.ext_getElem?
  intro j'
  by_cases hjj : j' = j
  · subst hjj
    rw [List.getElem?_set_self (by rw [gl_w_len]; exact (List.getElem?_eq_some_iff.mp hj).1), gl_w_at hj]
    have e : (fs.map (gl_v F M)).set k (.int x) = fs.map (gl_v F (upd M i x)) := by
      apply List.ext_getElem?
      intro k'
      by_cases hkk : k' = k
      · subst hkk
        rw [List.getElem?_set_self (by rw [List.length_map]; exact (List.getElem?_eq_some_iff.mp hk).1), List.getElem?_map, hk]
        simp only [Option.map_some, gl_v, gl_upd_eq]
      · rw [List.getElem?_set_ne (Ne.symm hkk), List.getElem?_map, List.getElem?_map]
        cases hf : fs[k']? with
        | none => rfl
        | some y =>
          cases y with
          | inr c => rfl
          | inl i' =>
            have h1 : ow i' = (j', k') := how j' _ k' i' hj (by simp only [gl_at]; rw [hf])
            have hne : i' ≠ i := by
              intro e
              rw [e, h0] at h1
              exact hkk (Prod.mk.inj h1).2.symm
            simp only [Option.map_some, gl_v, gl_upd_ne hne]
    simp only [gl_e, e]
  · rw [List.getElem?_set_ne (Ne.symm hjj)]
    cases hc : lay[j']? with
    | none =>
      rw [List.getElem?_eq_none (by rw [gl_w_len]; exact List.getElem?_eq_none_iff.mp hc), List.getElem?_eq_none (by rw [gl_w_len]; exact List.getElem?_eq_none_iff.mp hc)]
    | some c =>
      rw [gl_w_at hc, gl_w_at hc]
      rw [gl_e_upd (c := c) (M := M) (M' := upd M i x)]
      intro k' i' hi
      apply gl_upd_ne
      intro e
      have h1 := how j' c k' i' hc hi
      rw [e, h0] at h1
      exact hjj (Prod.mk.inj h1).1.symm
theorem gl_lg_eq {M : Nat → Int32} {i : Nat} {x : Int64} : gl_lg (upd2 M i x) i = x := by
  unfold gl_lg upd2
  rw [gl_upd_ne (by omega), gl_upd_eq, gl_upd_eq]
  exact gl_mk_ok x
theorem gl_lg_ne {M : Nat → Int32} {i j : Nat} {x : Int64} (h : j + 1 < i ∨ i + 1 < j) : gl_lg (upd2 M i x) j = gl_lg M j := by
  unfold gl_lg upd2
  rw [gl_upd_ne (by omega), gl_upd_ne (by omega), gl_upd_ne (by omega), gl_upd_ne (by omega)]
theorem gl_upd2_ne {M : Nat → Int32} {i j : Nat} {x : Int64} (h : ¬ (j = i ∨ j = i + 1)) : upd2 M i x j = M j := by
  unfold upd2
  rw [gl_upd_ne (by omega), gl_upd_ne (by omega)]
theorem gl_set_lrow {F : gl_F} {lay : List gl_Ce} {M : Nat → Int32} (hok : gl_ok lay) {j n k : Nat} {f : Nat → Nat} (hj : lay[j]? = some (.inr (.inr (.inr (n, f))))) (hk : k < n) (x : Int64) :
    (gl_w F lay M).set j (gl_r F j, .inl (F.2.2.2.1.2, n, .inr (.inl (vp_updL (fun i => if i < n then gl_lg M (f i) else 0) k x)))) = gl_w F lay (upd2 M (f k) x) := by
  obtain ⟨⟨ow, how⟩, -⟩ := hok
  have hat : ∀ i, i < n → gl_at (.inr (.inr (.inr (n, f)))) (2 * i) = some (f i) ∧ gl_at (.inr (.inr (.inr (n, f)))) (2 * i + 1) = some (f i + 1) := fun i hi => by
    constructor
    · simp only [gl_at]; rw [if_pos (by omega), show 2 * i / 2 = i by omega, show 2 * i % 2 = 0 by omega]; rfl
    · simp only [gl_at]; rw [if_pos (by omega), show (2 * i + 1) / 2 = i by omega, show (2 * i + 1) % 2 = 1 by omega]
  have h0 : ∀ i, i < n → ow (f i) = (j, 2 * i) ∧ ow (f i + 1) = (j, 2 * i + 1) := fun i hi => ⟨how j _ _ _ hj (hat i hi).1, how j _ _ _ hj (hat i hi).2⟩
  apply List.ext_getElem?
  intro j'
  by_cases hjj : j' = j
  · subst hjj
    rw [List.getElem?_set_self (by rw [gl_w_len]; exact (List.getElem?_eq_some_iff.mp hj).1), gl_w_at hj]
    have e : vp_updL (fun i => if i < n then gl_lg M (f i) else 0) k x = (fun i => if i < n then gl_lg (upd2 M (f k) x) (f i) else 0) := by
      funext i
      unfold vp_updL
      by_cases hi : i = k
      · subst hi
        rw [if_pos rfl, if_pos hk, gl_lg_eq]
      · rw [if_neg hi]
        by_cases hin : i < n
        · show (if i < n then gl_lg M (f i) else 0) = _
          rw [if_pos hin, if_pos hin]
          unfold gl_lg
          obtain ⟨a1, a2⟩ := h0 i hin
          obtain ⟨b1, b2⟩ := h0 k hk
          have d : ∀ (u v a b : Nat), ow u = (j', a) → ow v = (j', b) → a ≠ b → u ≠ v := fun u v a b h1 h2 h3 h4 => by
            rw [h4, h2] at h1
            exact h3 (Prod.mk.inj h1).2.symm
          rw [gl_upd2_ne, gl_upd2_ne]
          · rintro (h | h)
            · exact d _ _ _ _ a2 b1 (by omega) h
            · exact d _ _ _ _ a2 b2 (by omega) h
          · rintro (h | h)
            · exact d _ _ _ _ a1 b1 (by omega) h
            · exact d _ _ _ _ a1 b2 (by omega) h
        · show (if i < n then gl_lg M (f i) else 0) = _
          rw [if_neg hin, if_neg hin]
    simp only [gl_e, e]
  · rw [List.getElem?_set_ne (Ne.symm hjj)]
    cases hc : lay[j']? with
    | none =>
      rw [List.getElem?_eq_none (by rw [gl_w_len]; exact List.getElem?_eq_none_iff.mp hc), List.getElem?_eq_none (by rw [gl_w_len]; exact List.getElem?_eq_none_iff.mp hc)]
    | some c =>
      rw [gl_w_at hc, gl_w_at hc]
      rw [gl_e_upd (c := c) (M := M) (M' := upd2 M (f k) x)]
      intro k' i hi
      obtain ⟨b1, b2⟩ := h0 k hk
      have h1 := how j' c k' i hc hi
      apply gl_upd2_ne
      rintro (e | e)
      · rw [e, b1] at h1
        exact hjj (Prod.mk.inj h1).1.symm
      · rw [e, b2] at h1
        exact hjj (Prod.mk.inj h1).1.symm
theorem gl_w_D {F : gl_F} {lay : List gl_Ce} {M : Nat → Int32} (h : gl_inj F lay) : va_D (gl_A F lay) (gl_w F lay M) := by
  refine ⟨fun i j p q hi hj hpq => ?_, fun k q hk => ?_⟩
  · obtain ⟨c, h1, rfl⟩ := gl_w_inv hi
    obtain ⟨c', h2, rfl⟩ := gl_w_inv hj
    exact h i j (List.getElem?_eq_some_iff.mp h1).1 (List.getElem?_eq_some_iff.mp h2).1 hpq
  · obtain ⟨c, h1, rfl⟩ := gl_w_inv hk
    exact ⟨k, (List.getElem?_eq_some_iff.mp h1).1, rfl⟩
/-! ===== locals as a list by places ===== -/
def gl_L (nL : Nat) (ls : Array Slot) (L : List (Option Value)) : Prop := ls.size = nL ∧ lv_wf ls ∧ L.length = nL ∧ ∀ (i : Nat) (v : Value), L[i]? = some (some v) → ls[i]? = some (.val v)
def gl_al (L : List (Option Value)) : List (Nat × Value) := L.zipIdx.filterMap (fun q => q.1.map (fun v => (q.2, v)))
theorem gl_al_mem {L : List (Option Value)} {i : Nat} {v : Value} : (i, v) ∈ gl_al L ↔ L[i]? = some (some v) := by
  unfold gl_al
  rw [List.mem_filterMap]
  constructor
  · rintro ⟨⟨o, j⟩, h1, h2⟩
    have h3 := List.mk_mem_zipIdx_iff_getElem?.mp h1
    cases o with
    | none => cases h2
    | some w =>
      simp only [Option.map_some, Option.some.injEq, Prod.mk.injEq] at h2
      obtain ⟨rfl, rfl⟩ := h2
      exact h3
  · intro h
    exact ⟨(some v, i), List.mk_mem_zipIdx_iff_getElem?.mpr h, rfl⟩
theorem gl_L_has {nL : Nat} {ls : Array Slot} {L : List (Option Value)} (h : gl_L nL ls L) : lv_has ls nL (gl_al L) :=
  ⟨h.1, h.2.1, fun q hq => h.2.2.2 q.1 q.2 (gl_al_mem.mp hq)⟩
theorem gl_L_at {nL : Nat} {ls : Array Slot} {L : List (Option Value)} (h : gl_L nL ls L) {i : Nat} {v : Value} (hi : L[i]? = some (some v)) : ls[i]? = some (.val v) := h.2.2.2 i v hi
/-- what stands ahead of a place isn't a long -/
def gl_pc (L : List (Option Value)) : Nat → Bool
  | 0 => true
  | i + 1 => match L[i]? with
    | some (some v) => v.category == 1
    | _ => true
theorem gl_pc_no {L : List (Option Value)} {i j : Nat} {w : Value} (h : gl_pc L i = true) (hj : L[j]? = some (some w)) (hij : j + 1 = i) : ¬ w.category = 2 := by
  subst hij
  simp only [gl_pc, hj, beq_iff_eq] at h
  omega
theorem gl_L_set {nL : Nat} {ls ls' : Array Slot} {L : List (Option Value)} {i : Nat} {v : Value} (h : gl_L nL ls L) (hc : v.category = 1)
    (h' : lv_has ls' nL ((i, v) :: (gl_al L).filter (fun q => !(q.1 == i) && !(q.1 + 1 == i && q.2.category == 2)))) (hp : gl_pc L i = true) : gl_L nL ls' (L.set i (some v)) := by
  refine ⟨h'.1, h'.2.1, by rw [List.length_set]; exact h.2.2.1, fun j w hj => ?_⟩
  by_cases hij : j = i
  · subst hij
    have hlt : j < L.length := by
      have := (List.getElem?_eq_some_iff.mp hj).1
      rwa [List.length_set] at this
    rw [List.getElem?_set_self hlt] at hj
    cases hj
    exact h'.2.2 _ List.mem_cons_self
  · rw [List.getElem?_set_ne (Ne.symm hij)] at hj
    refine h'.2.2 (j, w) (List.mem_cons_of_mem _ (List.mem_filter.mpr ⟨gl_al_mem.mpr hj, ?_⟩))
    have hw := gl_pc_no (j := j) hp hj
    by_cases h1 : j + 1 = i
    · have := hw h1
      simp [hij, this]
    · simp [hij, h1]
theorem gl_L_set2 {nL : Nat} {ls ls' : Array Slot} {L : List (Option Value)} {i : Nat} {v : Value} (h : gl_L nL ls L)
    (h' : lv_has ls' nL ((i, v) :: (gl_al L).filter (fun q => !(q.1 == i) && (!(q.1 == i + 1) && !(q.1 + 1 == i && q.2.category == 2))))) (hp : gl_pc L i = true) : gl_L nL ls' ((L.set i (some v)).set (i + 1) none) := by
  refine ⟨h'.1, h'.2.1, by rw [List.length_set, List.length_set]; exact h.2.2.1, fun j w hj => ?_⟩
  by_cases hij1 : j = i + 1
  · subst hij1
    have hlt : i + 1 < (L.set i (some v)).length := by
      have := (List.getElem?_eq_some_iff.mp hj).1
      rwa [List.length_set] at this
    rw [List.getElem?_set_self hlt] at hj
    cases hj
  rw [List.getElem?_set_ne (Ne.symm hij1)] at hj
  by_cases hij : j = i
  · subst hij
    have hlt : j < L.length := by
      have := (List.getElem?_eq_some_iff.mp hj).1
      rwa [List.length_set] at this
    rw [List.getElem?_set_self hlt] at hj
    cases hj
    exact h'.2.2 _ List.mem_cons_self
  · rw [List.getElem?_set_ne (Ne.symm hij)] at hj
    refine h'.2.2 (j, w) (List.mem_cons_of_mem _ (List.mem_filter.mpr ⟨gl_al_mem.mpr hj, ?_⟩))
    have hw := gl_pc_no (j := j) hp hj
    by_cases h1 : j + 1 = i
    · have := hw h1
      simp [hij, hij1, this]
    · simp [hij, hij1, h1]
theorem gl_args_at (av : List Value) (h : ∀ v ∈ av, v.category = 1) : ∀ (b i : Nat) (v : Value), av[i]? = some v → (b + i, v) ∈ lv_args b av := by
  induction av with
  | nil => intro b i v hv; simp at hv
  | cons a as ih =>
    intro b i v hv
    have ha : ¬ a.category = 2 := by rw [h a List.mem_cons_self]; decide
    simp only [lv_args, ha, if_false]
    cases i with
    | zero =>
      simp only [List.getElem?_cons_zero, Option.some.injEq] at hv
      subst hv
      exact List.mem_cons_self
    | succ i =>
      rw [List.getElem?_cons_succ] at hv
      have := ih (fun v hv => h v (List.mem_cons_of_mem _ hv)) (b + 1) i v hv
      rw [show b + 1 + i = b + (i + 1) by omega] at this
      exact List.mem_cons_of_mem _ this
theorem gl_sl_len (av : List Value) (h : ∀ v ∈ av, v.category = 1) : (lg_sl av).length = av.length := by
  induction av with
  | nil => rfl
  | cons a as ih =>
    have ha : ¬ a.category = 2 := by rw [h a List.mem_cons_self]; decide
    have hi := ih (fun v hv => h v (List.mem_cons_of_mem _ hv))
    unfold lg_sl at hi ⊢
    simp [ha, hi]
/-! ===== the judgement: the machine at pc, locals L, stack st, memory M, comes to the method's end with answer ov and memory M' ===== -/
abbrev gl_V : Type := gl_F × Program × Env × Room × State × MethodId × Array Value × List Frame × Method × Code × Nat
def gl_Q (F : gl_F) (lay : List gl_Ce) (ov : Option Value) (M' : Nat → Int32) : Array Value → State → Outcome → State → Prop := fun _ st o t => o = .returned ov ∧ va_P F.2.1 vwCl (gl_w F lay M') t.heap ∧ va_F (gl_A F lay) st t
def gl_Pc (F : gl_F) (lay : List gl_Ce) (av : List Value) (M : Nat → Int32) : Array Value → State → Prop := va_Pc av (fun U => va_P F.2.1 vwCl (gl_w F lay M) U.heap ∧ va_K F.2.1 vwCl (gl_tys F) U ∧ gl_inj F lay)
/-- A CONTRACT: method y, called with av over memory M, answers ov and leaves M' -/
def gl_Ct (F : gl_F) (lay : List gl_Ce) (y : MethodName) (ws : List Cond) (rm : Room) (av : List Value) (M : Nat → Int32) (ov : Option Value) (M' : Nat → Int32) : Prop := Met F.1 y ws rm (gl_Pc F lay av M) (gl_Q F lay ov M') 0 0 (gl_A F lay)
def gl_C (cc : ByteArray) (ws : List Cond) (own : String) (rm : Room) (ret : Option FieldType) (lay : List gl_Ce) : gl_V → Prop
  | (F, p, e, R, s, m, args, below, meth, c, nL) => p.tables.exec = Jvm.exec ∧ c.code = cc ∧ c.maxLocals = nL ∧ s.vm.findClass own = some m.cls ∧ (∀ w ∈ ws, w.before args s = true) ∧ va_K F.2.1 vwCl (gl_tys F) s ∧ gl_inj F lay ∧ gl_ok lay ∧ meth.locks = false ∧ meth.sig.returnType = ret ∧ R = rm
def gl_G (lay : List gl_Ce) (ov : Option Value) (M' : Nat → Int32) : gl_V → Nat → List (Option Value) → List Value → (Nat → Int32) → Prop
  | (F, p, e, R, s, m, args, below, meth, c, nL), pc, L, st, M => ∀ (H : Heap) (locs : List Loc) (ls : Array Slot), va_P F.2.1 vwCl (gl_w F lay M) H → va_S (gl_A F lay) s.heap H locs → gl_L nL ls L → W p F.1 e R s m args below meth c H locs 0 0 (MQ below (gl_Q F lay ov M') args s 0 0 (gl_A F lay)) (F0 m pc ls st)
/-- a method's contract out of the walk of its body, for a method that no native row overrides -/
theorem gl_ofW {l : Launch} {y : MethodName} {ws ws' : List Cond} {rm : Room} {Pc : Array Value → State → Prop} {Qc : Array Value → State → Outcome → State → Prop} {mc ms : Nat} {free : Addr → Prop} {cc : ByteArray} {maxL : Nat} {ret : Option FieldType}
    (hy : plainFor y = true) (hw : ws = Cond.code y cc maxL ret :: ws')
    (body : ∀ p e s m args below meth c s₁, BodyLoose p l y (headSpec ws rm) cc maxL ret e s m args below meth c s₁ → c.maxLocals = maxL → Pc args s →
      W p l e (headSpec ws rm).room s m args below meth c s.heap [] 0 0 (MQ below Qc args s mc ms free) (entryFrame m args maxL)) : Met l y ws rm Pc Qc mc ms free := by
  refine MetFree.of_bodySF (code := cc) (maxLocals := maxL) (ret := ret) hy (fun args s m h hn => ?_) (fun p e s m args below meth c s₁ B hml hP _ => ?_)
  · obtain ⟨meth, c, h1, h2, h3, h4, h5, h6, -, -⟩ := Cond.code_spec hn (atoms_spec (ws := ws) h _ (by rw [hw]; exact List.mem_cons_self))
    exact ⟨meth, c, h1, h2, h3, h4, h5, h6⟩
  · have hh : s₁.heap = s.heap := by rw [B.state]; rfl
    obtain ⟨t, a1, o, b1, b2, b3⟩ := body p e s m args below meth c s₁ B hml hP s₁ hh (Stand.of_body B)
    exact ⟨t, o, a1, b1, b2, b3.1, b3.2⟩
set_option maxHeartbeats 1000000 in
theorem gl_met {F : gl_F} {lay : List gl_Ce} {y : MethodName} {ws ws' : List Cond} {cc : ByteArray} {maxL : Nat} {ret : Option FieldType} {rm : Room} {av : List Value} {M M' : Nat → Int32} {ov : Option Value} (L0 : List (Option Value))
    (hy : plainFor y = true) (hw : ws = Cond.code y cc maxL ret :: ws') (hok : gl_ok lay) (hav : ∀ v ∈ av, v.category = 1) (hlen : av.length ≤ maxL) (hL0 : av.map some ++ List.replicate (maxL - av.length) none = L0)
    (body : ∀ V : gl_V, V.1 = F → gl_C cc ws y.cls rm ret lay V → gl_G lay ov M' V 0 L0 [] M) : gl_Ct F lay y ws rm av M ov M' := by
  refine gl_ofW (cc := cc) (maxL := maxL) (ret := ret) hy hw ?_
  intro p e s m args below meth c s₁ B hml hv
  obtain ⟨rfl, hP, hK, hI⟩ := hv
  have hts := atoms_spec (ws := ws) B.pre
  have hown : s.vm.findClass y.cls = some m.cls := findClass_of_methodNamed B.named
  have hl := lv_entry av (n := maxL) (by rw [gl_sl_len av hav]; exact hlen)
  rw [lg_entry_eq]
  generalize (lg_sl av ++ List.replicate (maxL - (lg_sl av).length) Slot.unset).toArray = ls at hl ⊢
  have hL : gl_L maxL ls L0 := by
    refine ⟨hl.1, hl.2.1, ?_, fun i v hi => ?_⟩
    · rw [← hL0]; simp; omega
    · rw [← hL0] at hi
      by_cases h : i < av.length
      · rw [List.getElem?_append_left (by simpa using h), List.getElem?_map] at hi
        cases hx : av[i]? with
        | none => rw [hx] at hi; cases hi
        | some w =>
          rw [hx] at hi
          simp only [Option.map_some, Option.some.injEq] at hi
          subst hi
          have := gl_args_at av hav 0 i w hx
          rw [Nat.zero_add] at this
          exact hl.2.2 _ this
      · rw [List.getElem?_append_right (by simpa using h)] at hi
        have := List.eq_of_mem_replicate (List.mem_of_getElem? hi)
        cases this
  exact body (F, p, e, rm, s, m, av.toArray, below, meth, c, maxL) rfl ⟨B.exec, B.bytes, hml, hown, hts, hK, hI, hok, B.notSynchronized, B.returns, rfl⟩ s.heap [] ls hP va_S.rf hL
def gl_le : List (Option Value) → List (Option Value) → Prop
  | [], [] => True
  | none :: a, _ :: b => gl_le a b
  | some v :: a, some w :: b => w = v ∧ gl_le a b
  | _, _ => False
theorem gl_le_len : ∀ {a b : List (Option Value)}, gl_le a b → a.length = b.length
  | [], [], _ => rfl
  | none :: a, _ :: b, h => by
    simp only [gl_le] at h
    simp [gl_le_len h]
  | some v :: a, some w :: b, h => by
    simp only [gl_le] at h
    simp [gl_le_len h.2]
  | [], _ :: _, h => by simp [gl_le] at h
  | none :: _, [], h => by simp [gl_le] at h
  | some _ :: _, [], h => by simp [gl_le] at h
  | some _ :: _, none :: _, h => by simp [gl_le] at h
theorem gl_le_at : ∀ {a b : List (Option Value)}, gl_le a b → ∀ (i : Nat) (v : Value), a[i]? = some (some v) → b[i]? = some (some v)
  | [], [], _, i, v, hi => by simp at hi
  | none :: a, x :: b, h, i, v, hi => by
    simp only [gl_le] at h
    cases i with
    | zero => simp at hi
    | succ i =>
      rw [List.getElem?_cons_succ] at hi ⊢
      exact gl_le_at h i v hi
  | some u :: a, some w :: b, h, i, v, hi => by
    simp only [gl_le] at h
    cases i with
    | zero =>
      rw [List.getElem?_cons_zero] at hi ⊢
      rw [h.1]
      exact hi
    | succ i =>
      rw [List.getElem?_cons_succ] at hi ⊢
      exact gl_le_at h.2 i v hi
  | [], _ :: _, h, _, _, _ => by simp [gl_le] at h
  | none :: _, [], h, _, _, _ => by simp [gl_le] at h
  | some _ :: _, [], h, _, _, _ => by simp [gl_le] at h
  | some _ :: _, none :: _, h, _, _, _ => by simp [gl_le] at h
theorem gl_le_n : gl_le [] [] := trivial
theorem gl_le_c {v w : Value} {a b : List (Option Value)} (h : w = v) (t : gl_le a b) : gl_le (some v :: a) (some w :: b) := ⟨h, t⟩
theorem gl_le_o {x : Option Value} {a b : List (Option Value)} (t : gl_le a b) : gl_le (none :: a) (x :: b) := t
theorem gl_inc1 (x : Int32) : x + Int32.ofInt 1 = x + nI 1 := by rw [show Int32.ofInt 1 = nI 1 by decide]
theorem gl_inc4 (x : Int32) : x + Int32.ofInt 4 = x + nI 4 := by rw [show Int32.ofInt 4 = nI 4 by decide]
theorem gl_i1 : Int32.ofInt 1 = nI 1 := by decide
theorem gl_i4 : Int32.ofInt 4 = nI 4 := by decide
theorem gl_cases (x : Int32) (N : Nat) (hN : N < 1000) : (x.toInt < 0 ∨ (N : Int) < x.toInt) ∨ ∃ i, i ≤ N ∧ x = nI i := by
  by_cases h : x < 0
  · left; left
    have z : (0 : Int32).toInt = 0 := by decide
    rw [Int32.lt_iff_toInt_lt, z] at h
    exact h
  · obtain ⟨j, hj, rfl⟩ := nI_of h
    rw [nI_toInt hj]
    by_cases q : j ≤ N
    · exact Or.inr ⟨j, q, rfl⟩
    · left; right; omega
theorem gl_xge {x : Int32} : ¬ ¬ x ≤ x := fun h => h (Int32.le_refl _)
/-- a contract out of the walk of the body, for a method whose one argument is a long -/
theorem gl_metL {F : gl_F} {lay : List gl_Ce} {y : MethodName} {ws ws' : List Cond} {cc : ByteArray} {ret : Option FieldType} {rm : Room} {x : Int64} {M M' : Nat → Int32} {ov : Option Value}
    (hy : plainFor y = true) (hw : ws = Cond.code y cc 2 ret :: ws') (hok : gl_ok lay)
    (body : ∀ V : gl_V, V.1 = F → gl_C cc ws y.cls rm ret lay V → gl_G lay ov M' V 0 [some (.long x), none] [] M) : gl_Ct F lay y ws rm [.long x] M ov M' := by
  refine gl_ofW (cc := cc) (maxL := 2) (ret := ret) hy hw ?_
  intro p e s m args below meth c s₁ B hml hv
  obtain ⟨rfl, hP, hK, hI⟩ := hv
  have hts := atoms_spec (ws := ws) B.pre
  have hown : s.vm.findClass y.cls = some m.cls := findClass_of_methodNamed B.named
  have hl := lv_entry [Value.long x] (n := 2) (by simp [lg_sl, Value.category])
  rw [lg_entry_eq]
  generalize (lg_sl [Value.long x] ++ List.replicate (2 - (lg_sl [Value.long x]).length) Slot.unset).toArray = ls at hl ⊢
  have hL : gl_L 2 ls [some (.long x), none] := by
    refine ⟨hl.1, hl.2.1, rfl, fun i v hi => ?_⟩
    cases i with
    | zero =>
      simp only [List.getElem?_cons_zero, Option.some.injEq] at hi
      subst hi
      exact hl.2.2 (0, .long x) (by simp [lv_args])
    | succ i =>
      cases i with
      | zero => simp at hi
      | succ i => simp at hi
  exact body (F, p, e, rm, s, m, [Value.long x].toArray, below, meth, c, 2) rfl ⟨B.exec, B.bytes, hml, hown, hts, hK, hI, hok, B.notSynchronized, B.returns, rfl⟩ s.heap [] ls hP va_S.rf hL
section GLR
variable {cc : ByteArray} {ws : List Cond} {own : String} {rm : Room} {ret : Option FieldType} {lay : List gl_Ce} {ov : Option Value} {M M' M1 : Nat → Int32} {V : gl_V} {pc : Nat} {L L1 : List (Option Value)} {st rest : List Value}
/-- on at a place whose state is known to go on: what is asked there must be what stands -/
theorem gl_on (h : gl_G lay ov M' V pc L1 st M1) (hL : gl_le L1 L) (hM : M = M1) : gl_G lay ov M' V pc L st M := by
  obtain ⟨F, p, e, R, s, m, args, below, meth, c, nL⟩ := V
  subst hM
  intro H locs ls hP hS hl
  exact h H locs ls hP hS ⟨hl.1, hl.2.1, (gl_le_len hL).trans hl.2.2.1, fun i v hi => hl.2.2.2 i v (gl_le_at hL i v hi)⟩
theorem gl_mem (hM : M = M1) (h : gl_G lay ov M' V pc L st M1) : gl_G lay ov M' V pc L st M := by rw [hM]; exact h
theorem gl_top {x y : Int32} (hx : x = y) (h : gl_G lay ov M' V pc L (.int y :: st) M) : gl_G lay ov M' V pc L (.int x :: st) M := by rw [hx]; exact h
theorem gl_loop {n : Nat} (Lk : Nat → List (Option Value)) (Mk : Nat → Nat → Int32) (I : Nat → Prop) (k0 : Nat) (h0 : k0 ≤ n) (hI : I k0) (hL : gl_le (Lk k0) L) (hM : M = Mk k0) (exit : I n → gl_G lay ov M' V pc (Lk n) st (Mk n))
    (step : ∀ k, k < n → I k → (I (k + 1) → gl_G lay ov M' V pc (Lk (k + 1)) st (Mk (k + 1))) → gl_G lay ov M' V pc (Lk k) st (Mk k)) : gl_G lay ov M' V pc L st M := by
  have h : ∀ j k, k + j = n → I k → gl_G lay ov M' V pc (Lk k) st (Mk k) := by
    intro j
    induction j with
    | zero =>
      intro k hk hI
      rw [Nat.add_zero] at hk
      subst hk
      exact exit hI
    | succ j ih =>
      intro k hk hI
      exact step k (by omega) hI (fun h => ih (k + 1) (by omega) h)
  exact gl_on (h (n - k0) k0 (by omega) hI) hL hM
theorem gl_iconst {n : Int} (v : Int32) (C : gl_C cc ws own rm ret lay V) (d : decode cc pc = .ok (.iconst n, 1)) (hv : Int32.ofInt n = v) (k : gl_G lay ov M' V (pc + 1) L (.int v :: st) M) : gl_G lay ov M' V pc L st M := by
  obtain ⟨F, p, e, R, s, m, args, below, meth, c, nL⟩ := V
  obtain ⟨hx, hb, hml, hown, hts, hK, hI, hok, hlk, hr, rfl⟩ := C
  intro H locs ls hP hS hl
  exact lv_iconst hx hb d hv (k H locs ls hP hS hl)
theorem gl_bipush {n : Int} (v : Int32) (C : gl_C cc ws own rm ret lay V) (d : decode cc pc = .ok (.bipush n, 2)) (hv : (Int8.ofInt n).toInt32 = v) (k : gl_G lay ov M' V (pc + 2) L (.int v :: st) M) : gl_G lay ov M' V pc L st M := by
  obtain ⟨F, p, e, R, s, m, args, below, meth, c, nL⟩ := V
  obtain ⟨hx, hb, hml, hown, hts, hK, hI, hok, hlk, hr, rfl⟩ := C
  intro H locs ls hP hS hl
  exact lv_bipush hx hb d hv (k H locs ls hP hS hl)
theorem gl_sipush {n : Int} (v : Int32) (C : gl_C cc ws own rm ret lay V) (d : decode cc pc = .ok (.sipush n, 3)) (hv : (Int16.ofInt n).toInt32 = v) (k : gl_G lay ov M' V (pc + 3) L (.int v :: st) M) : gl_G lay ov M' V pc L st M := by
  obtain ⟨F, p, e, R, s, m, args, below, meth, c, nL⟩ := V
  obtain ⟨hx, hb, hml, hown, hts, hK, hI, hok, hlk, hr, rfl⟩ := C
  intro H locs ls hP hS hl
  exact lv_sipush hx hb d hv (k H locs ls hP hS hl)
theorem gl_ldc {index : Nat} (v : Int32) (C : gl_C cc ws own rm ret lay V) (d : decode cc pc = .ok (.ldc index, 2)) (hv : Cond.constant own index v ∈ ws) (k : gl_G lay ov M' V (pc + 2) L (.int v :: st) M) : gl_G lay ov M' V pc L st M := by
  obtain ⟨F, p, e, R, s, m, args, below, meth, c, nL⟩ := V
  obtain ⟨hx, hb, hml, hown, hts, hK, hI, hok, hlk, hr, rfl⟩ := C
  intro H locs ls hP hS hl
  exact lv_ldc hx hb hown (hts _ hv) d (k H locs ls hP hS hl)
theorem gl_ldcw {index : Nat} (v : Int32) (C : gl_C cc ws own rm ret lay V) (d : decode cc pc = .ok (.ldc_w index, 3)) (hv : Cond.constant own index v ∈ ws) (k : gl_G lay ov M' V (pc + 3) L (.int v :: st) M) : gl_G lay ov M' V pc L st M := by
  obtain ⟨F, p, e, R, s, m, args, below, meth, c, nL⟩ := V
  obtain ⟨hx, hb, hml, hown, hts, hK, hI, hok, hlk, hr, rfl⟩ := C
  intro H locs ls hP hS hl
  exact lv_ldcw hx hb hown (hts _ hv) d (k H locs ls hP hS hl)
theorem gl_iadd {x y : Int32} (C : gl_C cc ws own rm ret lay V) (d : decode cc pc = .ok (.iadd, 1)) (k : gl_G lay ov M' V (pc + 1) L (.int (x + y) :: st) M) : gl_G lay ov M' V pc L (.int y :: .int x :: st) M := by
  obtain ⟨F, p, e, R, s, m, args, below, meth, c, nL⟩ := V
  obtain ⟨hx, hb, hml, hown, hts, hK, hI, hok, hlk, hr, rfl⟩ := C
  intro H locs ls hP hS hl
  exact lv_iadd hx hb d (k H locs ls hP hS hl)
theorem gl_isub {x y : Int32} (C : gl_C cc ws own rm ret lay V) (d : decode cc pc = .ok (.isub, 1)) (k : gl_G lay ov M' V (pc + 1) L (.int (x - y) :: st) M) : gl_G lay ov M' V pc L (.int y :: .int x :: st) M := by
  obtain ⟨F, p, e, R, s, m, args, below, meth, c, nL⟩ := V
  obtain ⟨hx, hb, hml, hown, hts, hK, hI, hok, hlk, hr, rfl⟩ := C
  intro H locs ls hP hS hl
  exact lv_isub hx hb d (k H locs ls hP hS hl)
theorem gl_imul {x y : Int32} (C : gl_C cc ws own rm ret lay V) (d : decode cc pc = .ok (.imul, 1)) (k : gl_G lay ov M' V (pc + 1) L (.int (x * y) :: st) M) : gl_G lay ov M' V pc L (.int y :: .int x :: st) M := by
  obtain ⟨F, p, e, R, s, m, args, below, meth, c, nL⟩ := V
  obtain ⟨hx, hb, hml, hown, hts, hK, hI, hok, hlk, hr, rfl⟩ := C
  intro H locs ls hP hS hl
  exact lv_imul hx hb d (k H locs ls hP hS hl)
theorem gl_iand {x y : Int32} (C : gl_C cc ws own rm ret lay V) (d : decode cc pc = .ok (.iand, 1)) (k : gl_G lay ov M' V (pc + 1) L (.int (x &&& y) :: st) M) : gl_G lay ov M' V pc L (.int y :: .int x :: st) M := by
  obtain ⟨F, p, e, R, s, m, args, below, meth, c, nL⟩ := V
  obtain ⟨hx, hb, hml, hown, hts, hK, hI, hok, hlk, hr, rfl⟩ := C
  intro H locs ls hP hS hl
  exact lv_iand hx hb d (k H locs ls hP hS hl)
theorem gl_ior {x y : Int32} (C : gl_C cc ws own rm ret lay V) (d : decode cc pc = .ok (.ior, 1)) (k : gl_G lay ov M' V (pc + 1) L (.int (x ||| y) :: st) M) : gl_G lay ov M' V pc L (.int y :: .int x :: st) M := by
  obtain ⟨F, p, e, R, s, m, args, below, meth, c, nL⟩ := V
  obtain ⟨hx, hb, hml, hown, hts, hK, hI, hok, hlk, hr, rfl⟩ := C
  intro H locs ls hP hS hl
  exact lv_ior hx hb d (k H locs ls hP hS hl)
theorem gl_ixor {x y : Int32} (C : gl_C cc ws own rm ret lay V) (d : decode cc pc = .ok (.ixor, 1)) (k : gl_G lay ov M' V (pc + 1) L (.int (x ^^^ y) :: st) M) : gl_G lay ov M' V pc L (.int y :: .int x :: st) M := by
  obtain ⟨F, p, e, R, s, m, args, below, meth, c, nL⟩ := V
  obtain ⟨hx, hb, hml, hown, hts, hK, hI, hok, hlk, hr, rfl⟩ := C
  intro H locs ls hP hS hl
  exact lv_ixor hx hb d (k H locs ls hP hS hl)
theorem gl_ishl {x y : Int32} (C : gl_C cc ws own rm ret lay V) (d : decode cc pc = .ok (.ishl, 1)) (k : gl_G lay ov M' V (pc + 1) L (.int (x <<< (y &&& 31)) :: st) M) : gl_G lay ov M' V pc L (.int y :: .int x :: st) M := by
  obtain ⟨F, p, e, R, s, m, args, below, meth, c, nL⟩ := V
  obtain ⟨hx, hb, hml, hown, hts, hK, hI, hok, hlk, hr, rfl⟩ := C
  intro H locs ls hP hS hl
  exact lv_ishl hx hb d (k H locs ls hP hS hl)
theorem gl_ishr {x y : Int32} (C : gl_C cc ws own rm ret lay V) (d : decode cc pc = .ok (.ishr, 1)) (k : gl_G lay ov M' V (pc + 1) L (.int (x >>> (y &&& 31)) :: st) M) : gl_G lay ov M' V pc L (.int y :: .int x :: st) M := by
  obtain ⟨F, p, e, R, s, m, args, below, meth, c, nL⟩ := V
  obtain ⟨hx, hb, hml, hown, hts, hK, hI, hok, hlk, hr, rfl⟩ := C
  intro H locs ls hP hS hl
  exact lv_ishr hx hb d (k H locs ls hP hS hl)
theorem gl_idiv {x y : Int32} (C : gl_C cc ws own rm ret lay V) (d : decode cc pc = .ok (.idiv, 1)) (hne : ¬ y = 0) (k : gl_G lay ov M' V (pc + 1) L (.int (x / y) :: st) M) : gl_G lay ov M' V pc L (.int y :: .int x :: st) M := by
  obtain ⟨F, p, e, R, s, m, args, below, meth, c, nL⟩ := V
  obtain ⟨hx, hb, hml, hown, hts, hK, hI, hok, hlk, hr, rfl⟩ := C
  intro H locs ls hP hS hl
  exact lv_idiv hx hb d hne (k H locs ls hP hS hl)
theorem gl_irem {x y : Int32} (C : gl_C cc ws own rm ret lay V) (d : decode cc pc = .ok (.irem, 1)) (hne : ¬ y = 0) (k : gl_G lay ov M' V (pc + 1) L (.int (x - x / y * y) :: st) M) : gl_G lay ov M' V pc L (.int y :: .int x :: st) M := by
  obtain ⟨F, p, e, R, s, m, args, below, meth, c, nL⟩ := V
  obtain ⟨hx, hb, hml, hown, hts, hK, hI, hok, hlk, hr, rfl⟩ := C
  intro H locs ls hP hS hl
  exact lv_irem hx hb d hne (k H locs ls hP hS hl)
theorem gl_iushr {x y : Int32} (C : gl_C cc ws own rm ret lay V) (d : decode cc pc = .ok (.iushr, 1)) (k : gl_G lay ov M' V (pc + 1) L (.int (x.toUInt32 >>> (y.toUInt32 &&& Int32.toUInt32 31)).toInt32 :: st) M) : gl_G lay ov M' V pc L (.int y :: .int x :: st) M := by
  obtain ⟨F, p, e, R, s, m, args, below, meth, c, nL⟩ := V
  obtain ⟨hx, hb, hml, hown, hts, hK, hI, hok, hlk, hr, rfl⟩ := C
  intro H locs ls hP hS hl
  exact lv_iushr hx hb d rfl (k H locs ls hP hS hl)
theorem gl_iaddN {a b : Nat} (C : gl_C cc ws own rm ret lay V) (d : decode cc pc = .ok (.iadd, 1)) (k : gl_G lay ov M' V (pc + 1) L (.int (nI (a + b)) :: st) M) : gl_G lay ov M' V pc L (.int (nI b) :: .int (nI a) :: st) M := gl_iadd C d (by rw [nI_add]; exact k)
theorem gl_imulN {a b : Nat} (C : gl_C cc ws own rm ret lay V) (d : decode cc pc = .ok (.imul, 1)) (k : gl_G lay ov M' V (pc + 1) L (.int (nI (a * b)) :: st) M) : gl_G lay ov M' V pc L (.int (nI b) :: .int (nI a) :: st) M := gl_imul C d (by rw [pk_mul]; exact k)
theorem gl_ifnull {q : Nat} {off : Int} (C : gl_C cc ws own rm ret lay V) (d : decode cc pc = .ok (.ifnull off, 3)) (k : gl_G lay ov M' V (pc + 3) L st M) : gl_G lay ov M' V pc L (.ref q :: st) M := by
  obtain ⟨F, p, e, R, s, m, args, below, meth, c, nL⟩ := V
  obtain ⟨hx, hb, hml, hown, hts, hK, hI, hok, hlk, hr, rfl⟩ := C
  intro H locs ls hP hS hl
  exact lv_ifnull hx hb d (k H locs ls hP hS hl)
theorem gl_ifnonnull {q : Nat} {off : Int} (tgt : Nat) (C : gl_C cc ws own rm ret lay V) (d : decode cc pc = .ok (.ifnonnull off, 3)) (ht : (pc : Int) + off = (tgt : Int)) (k : gl_G lay ov M' V tgt L st M) : gl_G lay ov M' V pc L (.ref q :: st) M := by
  obtain ⟨F, p, e, R, s, m, args, below, meth, c, nL⟩ := V
  obtain ⟨hx, hb, hml, hown, hts, hK, hI, hok, hlk, hr, rfl⟩ := C
  intro H locs ls hP hS hl
  exact lv_ifnonnull hx hb d ht (k H locs ls hP hS hl)
theorem gl_tableIn {dflt lo hi : Int} {offs : Array Int} {len : Nat} {x : Int32} {off : Int} (tgt : Nat) (C : gl_C cc ws own rm ret lay V) (d : decode cc pc = .ok (.tableswitch dflt lo hi offs, len)) (h1 : ¬ x.toInt < lo) (h2 : ¬ hi < x.toInt) (ho : offs[(x.toInt - lo).toNat]? = some off) (ht : (pc : Int) + off = (tgt : Int)) (k : gl_G lay ov M' V tgt L st M) : gl_G lay ov M' V pc L (.int x :: st) M := by
  obtain ⟨F, p, e, R, s, m, args, below, meth, c, nL⟩ := V
  obtain ⟨hx, hb, hml, hown, hts, hK, hI, hok, hlk, hr, rfl⟩ := C
  intro H locs ls hP hS hl
  exact lv_tableIn hx hb d h1 h2 ho ht (k H locs ls hP hS hl)
theorem gl_tableOut {dflt lo hi : Int} {offs : Array Int} {len : Nat} {x : Int32} (tgt : Nat) (C : gl_C cc ws own rm ret lay V) (d : decode cc pc = .ok (.tableswitch dflt lo hi offs, len)) (h : x.toInt < lo ∨ hi < x.toInt) (ht : (pc : Int) + dflt = (tgt : Int)) (k : gl_G lay ov M' V tgt L st M) : gl_G lay ov M' V pc L (.int x :: st) M := by
  obtain ⟨F, p, e, R, s, m, args, below, meth, c, nL⟩ := V
  obtain ⟨hx, hb, hml, hown, hts, hK, hI, hok, hlk, hr, rfl⟩ := C
  intro H locs ls hP hS hl
  exact lv_tableOut hx hb d h ht (k H locs ls hP hS hl)
theorem gl_lookup {dflt : Int} {ps : Array (Int × Int)} {len : Nat} {x : Int32} {off : Int} (tgt : Nat) (C : gl_C cc ws own rm ret lay V) (d : decode cc pc = .ok (.lookupswitch dflt ps, len)) (hp : (ps.toList.zip (ps.toList.drop 1)).all (fun (a, next) => a.1 < next.1) = true) (ho : Op.lookupswitch.offset ps.toList dflt x.toInt = off) (ht : (pc : Int) + off = (tgt : Int)) (k : gl_G lay ov M' V tgt L st M) : gl_G lay ov M' V pc L (.int x :: st) M := by
  obtain ⟨F, p, e, R, s, m, args, below, meth, c, nL⟩ := V
  obtain ⟨hx, hb, hml, hown, hts, hK, hI, hok, hlk, hr, rfl⟩ := C
  intro H locs ls hP hS hl
  exact lv_lookup hx hb d hp ho ht (k H locs ls hP hS hl)
theorem gl_ineg {x : Int32} (C : gl_C cc ws own rm ret lay V) (d : decode cc pc = .ok (.ineg, 1)) (k : gl_G lay ov M' V (pc + 1) L (.int (-x) :: st) M) : gl_G lay ov M' V pc L (.int x :: st) M := by
  obtain ⟨F, p, e, R, s, m, args, below, meth, c, nL⟩ := V
  obtain ⟨hx, hb, hml, hown, hts, hK, hI, hok, hlk, hr, rfl⟩ := C
  intro H locs ls hP hS hl
  exact lv_ineg hx hb d (k H locs ls hP hS hl)
theorem gl_dupI {x : Int32} (C : gl_C cc ws own rm ret lay V) (d : decode cc pc = .ok (.dup, 1)) (k : gl_G lay ov M' V (pc + 1) L (.int x :: .int x :: st) M) : gl_G lay ov M' V pc L (.int x :: st) M := by
  obtain ⟨F, p, e, R, s, m, args, below, meth, c, nL⟩ := V
  obtain ⟨hx, hb, hml, hown, hts, hK, hI, hok, hlk, hr, rfl⟩ := C
  intro H locs ls hP hS hl
  exact lv_dup hx hb d rfl (k H locs ls hP hS hl)
theorem gl_dupR {q : Nat} (C : gl_C cc ws own rm ret lay V) (d : decode cc pc = .ok (.dup, 1)) (k : gl_G lay ov M' V (pc + 1) L (.ref q :: .ref q :: st) M) : gl_G lay ov M' V pc L (.ref q :: st) M := by
  obtain ⟨F, p, e, R, s, m, args, below, meth, c, nL⟩ := V
  obtain ⟨hx, hb, hml, hown, hts, hK, hI, hok, hlk, hr, rfl⟩ := C
  intro H locs ls hP hS hl
  exact lv_dup hx hb d rfl (k H locs ls hP hS hl)
theorem gl_dup2 {x : Int32} {q : Nat} (C : gl_C cc ws own rm ret lay V) (d : decode cc pc = .ok (.dup2, 1)) (k : gl_G lay ov M' V (pc + 1) L (.int x :: .ref q :: .int x :: .ref q :: st) M) : gl_G lay ov M' V pc L (.int x :: .ref q :: st) M := by
  obtain ⟨F, p, e, R, s, m, args, below, meth, c, nL⟩ := V
  obtain ⟨hx, hb, hml, hown, hts, hK, hI, hok, hlk, hr, rfl⟩ := C
  intro H locs ls hP hS hl
  exact lv_dup2_11 hx hb d rfl rfl (k H locs ls hP hS hl)
theorem gl_goto {off : Int} (tgt : Nat) (C : gl_C cc ws own rm ret lay V) (d : decode cc pc = .ok (.goto off, 3)) (ht : (pc : Int) + off = (tgt : Int)) (k : gl_G lay ov M' V tgt L st M) : gl_G lay ov M' V pc L st M := by
  obtain ⟨F, p, e, R, s, m, args, below, meth, c, nL⟩ := V
  obtain ⟨hx, hb, hml, hown, hts, hK, hI, hok, hlk, hr, rfl⟩ := C
  intro H locs ls hP hS hl
  exact lv_goto hx hb d ht (k H locs ls hP hS hl)
theorem gl_icmp_eq {x y : Int32} {off : Int} (tgt : Nat) (C : gl_C cc ws own rm ret lay V) (d : decode cc pc = .ok (.if_icmp .eq off, 3)) (ht : (pc : Int) + off = (tgt : Int)) (kt : x = y → gl_G lay ov M' V tgt L st M) (kf : ¬ x = y → gl_G lay ov M' V (pc + 3) L st M) : gl_G lay ov M' V pc L (.int y :: .int x :: st) M := by
  obtain ⟨F, p, e, R, s, m, args, below, meth, c, nL⟩ := V
  obtain ⟨hx, hb, hml, hown, hts, hK, hI, hok, hlk, hr, rfl⟩ := C
  intro H locs ls hP hS hl
  exact lv_icmp_eq hx hb d ht (fun q => kt q H locs ls hP hS hl) (fun q => kf q H locs ls hP hS hl)
theorem gl_icmp_ne {x y : Int32} {off : Int} (tgt : Nat) (C : gl_C cc ws own rm ret lay V) (d : decode cc pc = .ok (.if_icmp .ne off, 3)) (ht : (pc : Int) + off = (tgt : Int)) (kt : ¬ x = y → gl_G lay ov M' V tgt L st M) (kf : x = y → gl_G lay ov M' V (pc + 3) L st M) : gl_G lay ov M' V pc L (.int y :: .int x :: st) M := by
  obtain ⟨F, p, e, R, s, m, args, below, meth, c, nL⟩ := V
  obtain ⟨hx, hb, hml, hown, hts, hK, hI, hok, hlk, hr, rfl⟩ := C
  intro H locs ls hP hS hl
  exact lv_icmp_ne hx hb d ht (fun q => kt q H locs ls hP hS hl) (fun q => kf q H locs ls hP hS hl)
theorem gl_icmp_lt {x y : Int32} {off : Int} (tgt : Nat) (C : gl_C cc ws own rm ret lay V) (d : decode cc pc = .ok (.if_icmp .lt off, 3)) (ht : (pc : Int) + off = (tgt : Int)) (kt : x < y → gl_G lay ov M' V tgt L st M) (kf : ¬ x < y → gl_G lay ov M' V (pc + 3) L st M) : gl_G lay ov M' V pc L (.int y :: .int x :: st) M := by
  obtain ⟨F, p, e, R, s, m, args, below, meth, c, nL⟩ := V
  obtain ⟨hx, hb, hml, hown, hts, hK, hI, hok, hlk, hr, rfl⟩ := C
  intro H locs ls hP hS hl
  exact lv_icmp_lt hx hb d ht (fun q => kt q H locs ls hP hS hl) (fun q => kf q H locs ls hP hS hl)
theorem gl_icmp_ge {x y : Int32} {off : Int} (tgt : Nat) (C : gl_C cc ws own rm ret lay V) (d : decode cc pc = .ok (.if_icmp .ge off, 3)) (ht : (pc : Int) + off = (tgt : Int)) (kt : y ≤ x → gl_G lay ov M' V tgt L st M) (kf : ¬ y ≤ x → gl_G lay ov M' V (pc + 3) L st M) : gl_G lay ov M' V pc L (.int y :: .int x :: st) M := by
  obtain ⟨F, p, e, R, s, m, args, below, meth, c, nL⟩ := V
  obtain ⟨hx, hb, hml, hown, hts, hK, hI, hok, hlk, hr, rfl⟩ := C
  intro H locs ls hP hS hl
  exact lv_icmp_ge hx hb d ht (fun q => kt q H locs ls hP hS hl) (fun q => kf q H locs ls hP hS hl)
theorem gl_icmp_gt {x y : Int32} {off : Int} (tgt : Nat) (C : gl_C cc ws own rm ret lay V) (d : decode cc pc = .ok (.if_icmp .gt off, 3)) (ht : (pc : Int) + off = (tgt : Int)) (kt : y < x → gl_G lay ov M' V tgt L st M) (kf : ¬ y < x → gl_G lay ov M' V (pc + 3) L st M) : gl_G lay ov M' V pc L (.int y :: .int x :: st) M := by
  obtain ⟨F, p, e, R, s, m, args, below, meth, c, nL⟩ := V
  obtain ⟨hx, hb, hml, hown, hts, hK, hI, hok, hlk, hr, rfl⟩ := C
  intro H locs ls hP hS hl
  exact lv_icmp_gt hx hb d ht (fun q => kt q H locs ls hP hS hl) (fun q => kf q H locs ls hP hS hl)
theorem gl_icmp_le {x y : Int32} {off : Int} (tgt : Nat) (C : gl_C cc ws own rm ret lay V) (d : decode cc pc = .ok (.if_icmp .le off, 3)) (ht : (pc : Int) + off = (tgt : Int)) (kt : x ≤ y → gl_G lay ov M' V tgt L st M) (kf : ¬ x ≤ y → gl_G lay ov M' V (pc + 3) L st M) : gl_G lay ov M' V pc L (.int y :: .int x :: st) M := by
  obtain ⟨F, p, e, R, s, m, args, below, meth, c, nL⟩ := V
  obtain ⟨hx, hb, hml, hown, hts, hK, hI, hok, hlk, hr, rfl⟩ := C
  intro H locs ls hP hS hl
  exact lv_icmp_le hx hb d ht (fun q => kt q H locs ls hP hS hl) (fun q => kf q H locs ls hP hS hl)
theorem gl_ifeq {x : Int32} {off : Int} (tgt : Nat) (C : gl_C cc ws own rm ret lay V) (d : decode cc pc = .ok (.ifCond .eq off, 3)) (ht : (pc : Int) + off = (tgt : Int)) (kt : x = 0 → gl_G lay ov M' V tgt L st M) (kf : ¬ x = 0 → gl_G lay ov M' V (pc + 3) L st M) : gl_G lay ov M' V pc L (.int x :: st) M := by
  obtain ⟨F, p, e, R, s, m, args, below, meth, c, nL⟩ := V
  obtain ⟨hx, hb, hml, hown, hts, hK, hI, hok, hlk, hr, rfl⟩ := C
  intro H locs ls hP hS hl
  exact lv_if_eq hx hb d ht (fun q => kt q H locs ls hP hS hl) (fun q => kf q H locs ls hP hS hl)
theorem gl_ifne {x : Int32} {off : Int} (tgt : Nat) (C : gl_C cc ws own rm ret lay V) (d : decode cc pc = .ok (.ifCond .ne off, 3)) (ht : (pc : Int) + off = (tgt : Int)) (kt : ¬ x = 0 → gl_G lay ov M' V tgt L st M) (kf : x = 0 → gl_G lay ov M' V (pc + 3) L st M) : gl_G lay ov M' V pc L (.int x :: st) M := by
  obtain ⟨F, p, e, R, s, m, args, below, meth, c, nL⟩ := V
  obtain ⟨hx, hb, hml, hown, hts, hK, hI, hok, hlk, hr, rfl⟩ := C
  intro H locs ls hP hS hl
  exact lv_if_ne hx hb d ht (fun q => kt q H locs ls hP hS hl) (fun q => kf q H locs ls hP hS hl)
theorem gl_iflt {x : Int32} {off : Int} (tgt : Nat) (C : gl_C cc ws own rm ret lay V) (d : decode cc pc = .ok (.ifCond .lt off, 3)) (ht : (pc : Int) + off = (tgt : Int)) (kt : x < 0 → gl_G lay ov M' V tgt L st M) (kf : ¬ x < 0 → gl_G lay ov M' V (pc + 3) L st M) : gl_G lay ov M' V pc L (.int x :: st) M := by
  obtain ⟨F, p, e, R, s, m, args, below, meth, c, nL⟩ := V
  obtain ⟨hx, hb, hml, hown, hts, hK, hI, hok, hlk, hr, rfl⟩ := C
  intro H locs ls hP hS hl
  exact lv_if_lt hx hb d ht (fun q => kt q H locs ls hP hS hl) (fun q => kf q H locs ls hP hS hl)
theorem gl_ifge {x : Int32} {off : Int} (tgt : Nat) (C : gl_C cc ws own rm ret lay V) (d : decode cc pc = .ok (.ifCond .ge off, 3)) (ht : (pc : Int) + off = (tgt : Int)) (kt : 0 ≤ x → gl_G lay ov M' V tgt L st M) (kf : ¬ 0 ≤ x → gl_G lay ov M' V (pc + 3) L st M) : gl_G lay ov M' V pc L (.int x :: st) M := by
  obtain ⟨F, p, e, R, s, m, args, below, meth, c, nL⟩ := V
  obtain ⟨hx, hb, hml, hown, hts, hK, hI, hok, hlk, hr, rfl⟩ := C
  intro H locs ls hP hS hl
  exact lv_if_ge hx hb d ht (fun q => kt q H locs ls hP hS hl) (fun q => kf q H locs ls hP hS hl)
theorem gl_ifgt {x : Int32} {off : Int} (tgt : Nat) (C : gl_C cc ws own rm ret lay V) (d : decode cc pc = .ok (.ifCond .gt off, 3)) (ht : (pc : Int) + off = (tgt : Int)) (kt : 0 < x → gl_G lay ov M' V tgt L st M) (kf : ¬ 0 < x → gl_G lay ov M' V (pc + 3) L st M) : gl_G lay ov M' V pc L (.int x :: st) M := by
  obtain ⟨F, p, e, R, s, m, args, below, meth, c, nL⟩ := V
  obtain ⟨hx, hb, hml, hown, hts, hK, hI, hok, hlk, hr, rfl⟩ := C
  intro H locs ls hP hS hl
  exact lv_if_gt hx hb d ht (fun q => kt q H locs ls hP hS hl) (fun q => kf q H locs ls hP hS hl)
theorem gl_ifle {x : Int32} {off : Int} (tgt : Nat) (C : gl_C cc ws own rm ret lay V) (d : decode cc pc = .ok (.ifCond .le off, 3)) (ht : (pc : Int) + off = (tgt : Int)) (kt : x ≤ 0 → gl_G lay ov M' V tgt L st M) (kf : ¬ x ≤ 0 → gl_G lay ov M' V (pc + 3) L st M) : gl_G lay ov M' V pc L (.int x :: st) M := by
  obtain ⟨F, p, e, R, s, m, args, below, meth, c, nL⟩ := V
  obtain ⟨hx, hb, hml, hown, hts, hK, hI, hok, hlk, hr, rfl⟩ := C
  intro H locs ls hP hS hl
  exact lv_if_le hx hb d ht (fun q => kt q H locs ls hP hS hl) (fun q => kf q H locs ls hP hS hl)
theorem gl_iload_0 {T : List (Option Value)} {x : Int32} (C : gl_C cc ws own rm ret lay V) (d : decode cc pc = .ok (.iload_n 0, 1)) (k : gl_G lay ov M' V (pc + 1) (some (.int x) :: T) (.int x :: st) M) : gl_G lay ov M' V pc (some (.int x) :: T) st M := by
  obtain ⟨F, p, e, R, s, m, args, below, meth, c, nL⟩ := V
  obtain ⟨hx, hb, hml, hown, hts, hK, hI, hok, hlk, hr, rfl⟩ := C
  intro H locs ls hP hS hl
  exact lv_iload_n hx hb d rfl (gl_L_at hl (i := 0) rfl) (k H locs ls hP hS hl)
theorem gl_istore_0 {o : Option Value} {T : List (Option Value)} {x : Int32} (C : gl_C cc ws own rm ret lay V) (d : decode cc pc = .ok (.istore_n 0, 1)) (k : gl_G lay ov M' V (pc + 1) (some (.int x) :: T) st M) (hc : gl_pc (o :: T) 0 = true := by with_unfolding_all rfl) : gl_G lay ov M' V pc (o :: T) (.int x :: st) M := by
  obtain ⟨F, p, e, R, s, m, args, below, meth, c, nL⟩ := V
  obtain ⟨hx, hb, hml, hown, hts, hK, hI, hok, hlk, hr, rfl⟩ := C
  intro H locs ls hP hS hl
  exact lv_istore_n hx hb d rfl (gl_L_has hl) (show 0 < nL by have := hl.2.2.1; simp at this; omega) rfl (fun ls' h' => k H locs ls' hP hS (gl_L_set (i := 0) hl rfl h' hc))
theorem gl_aload_0 {T : List (Option Value)} {q : Nat} (C : gl_C cc ws own rm ret lay V) (d : decode cc pc = .ok (.aload_n 0, 1)) (k : gl_G lay ov M' V (pc + 1) (some (.ref q) :: T) (.ref q :: st) M) : gl_G lay ov M' V pc (some (.ref q) :: T) st M := by
  obtain ⟨F, p, e, R, s, m, args, below, meth, c, nL⟩ := V
  obtain ⟨hx, hb, hml, hown, hts, hK, hI, hok, hlk, hr, rfl⟩ := C
  intro H locs ls hP hS hl
  exact lv_aload_n hx hb d rfl (gl_L_at hl (i := 0) rfl) (k H locs ls hP hS hl)
theorem gl_astore_0 {o : Option Value} {T : List (Option Value)} {q : Nat} (C : gl_C cc ws own rm ret lay V) (d : decode cc pc = .ok (.astore_n 0, 1)) (k : gl_G lay ov M' V (pc + 1) (some (.ref q) :: T) st M) (hc : gl_pc (o :: T) 0 = true := by with_unfolding_all rfl) : gl_G lay ov M' V pc (o :: T) (.ref q :: st) M := by
  obtain ⟨F, p, e, R, s, m, args, below, meth, c, nL⟩ := V
  obtain ⟨hx, hb, hml, hown, hts, hK, hI, hok, hlk, hr, rfl⟩ := C
  intro H locs ls hP hS hl
  exact lv_astore_n hx hb d rfl (gl_L_has hl) (show 0 < nL by have := hl.2.2.1; simp at this; omega) rfl (fun ls' h' => k H locs ls' hP hS (gl_L_set (i := 0) hl rfl h' hc))
theorem gl_iinc_0 {T : List (Option Value)} {x v : Int32} {n : Int} (C : gl_C cc ws own rm ret lay V) (d : decode cc pc = .ok (.iinc 0 n, 3)) (hn : x + Int32.ofInt n = v) (k : gl_G lay ov M' V (pc + 3) (some (.int (v)) :: T) st M) (hc : gl_pc (some (.int (x)) :: T) 0 = true := by with_unfolding_all rfl) : gl_G lay ov M' V pc (some (.int (x)) :: T) st M := by
  obtain ⟨F, p, e, R, s, m, args, below, meth, c, nL⟩ := V
  obtain ⟨hx, hb, hml, hown, hts, hK, hI, hok, hlk, hr, rfl⟩ := C
  intro H locs ls hP hS hl
  obtain ⟨kk, hkk⟩ := List.mem_iff_getElem?.mp (gl_al_mem (i := 0).mpr (show (some (Value.int (x)) :: T)[0]? = some (some (.int (x))) from rfl))
  exact lv_iinc hx hb d (gl_L_has hl) hkk hn (show 0 < nL by have := hl.2.2.1; simp at this; omega) rfl (fun ls' h' => k H locs ls' hP hS (gl_L_set (i := 0) hl rfl h' hc))
theorem gl_iincN_0 {T : List (Option Value)} {a v : Nat} {n : Int} (hn : Int32.ofInt n = nI v) (C : gl_C cc ws own rm ret lay V) (d : decode cc pc = .ok (.iinc 0 n, 3)) (k : gl_G lay ov M' V (pc + 3) (some (.int (nI (a + v))) :: T) st M) (hc : gl_pc (some (.int (nI a)) :: T) 0 = true := by with_unfolding_all rfl) : gl_G lay ov M' V pc (some (.int (nI a)) :: T) st M := gl_iinc_0 C d (by rw [hn]; exact nI_add a v) k hc
theorem gl_iload_1 {o0 : Option Value} {T : List (Option Value)} {x : Int32} (C : gl_C cc ws own rm ret lay V) (d : decode cc pc = .ok (.iload_n 1, 1)) (k : gl_G lay ov M' V (pc + 1) (o0 :: some (.int x) :: T) (.int x :: st) M) : gl_G lay ov M' V pc (o0 :: some (.int x) :: T) st M := by
  obtain ⟨F, p, e, R, s, m, args, below, meth, c, nL⟩ := V
  obtain ⟨hx, hb, hml, hown, hts, hK, hI, hok, hlk, hr, rfl⟩ := C
  intro H locs ls hP hS hl
  exact lv_iload_n hx hb d rfl (gl_L_at hl (i := 1) rfl) (k H locs ls hP hS hl)
theorem gl_istore_1 {o0 : Option Value} {o : Option Value} {T : List (Option Value)} {x : Int32} (C : gl_C cc ws own rm ret lay V) (d : decode cc pc = .ok (.istore_n 1, 1)) (k : gl_G lay ov M' V (pc + 1) (o0 :: some (.int x) :: T) st M) (hc : gl_pc (o0 :: o :: T) 1 = true := by with_unfolding_all rfl) : gl_G lay ov M' V pc (o0 :: o :: T) (.int x :: st) M := by
  obtain ⟨F, p, e, R, s, m, args, below, meth, c, nL⟩ := V
  obtain ⟨hx, hb, hml, hown, hts, hK, hI, hok, hlk, hr, rfl⟩ := C
  intro H locs ls hP hS hl
  exact lv_istore_n hx hb d rfl (gl_L_has hl) (show 1 < nL by have := hl.2.2.1; simp at this; omega) rfl (fun ls' h' => k H locs ls' hP hS (gl_L_set (i := 1) hl rfl h' hc))
theorem gl_aload_1 {o0 : Option Value} {T : List (Option Value)} {q : Nat} (C : gl_C cc ws own rm ret lay V) (d : decode cc pc = .ok (.aload_n 1, 1)) (k : gl_G lay ov M' V (pc + 1) (o0 :: some (.ref q) :: T) (.ref q :: st) M) : gl_G lay ov M' V pc (o0 :: some (.ref q) :: T) st M := by
  obtain ⟨F, p, e, R, s, m, args, below, meth, c, nL⟩ := V
  obtain ⟨hx, hb, hml, hown, hts, hK, hI, hok, hlk, hr, rfl⟩ := C
  intro H locs ls hP hS hl
  exact lv_aload_n hx hb d rfl (gl_L_at hl (i := 1) rfl) (k H locs ls hP hS hl)
theorem gl_astore_1 {o0 : Option Value} {o : Option Value} {T : List (Option Value)} {q : Nat} (C : gl_C cc ws own rm ret lay V) (d : decode cc pc = .ok (.astore_n 1, 1)) (k : gl_G lay ov M' V (pc + 1) (o0 :: some (.ref q) :: T) st M) (hc : gl_pc (o0 :: o :: T) 1 = true := by with_unfolding_all rfl) : gl_G lay ov M' V pc (o0 :: o :: T) (.ref q :: st) M := by
  obtain ⟨F, p, e, R, s, m, args, below, meth, c, nL⟩ := V
  obtain ⟨hx, hb, hml, hown, hts, hK, hI, hok, hlk, hr, rfl⟩ := C
  intro H locs ls hP hS hl
  exact lv_astore_n hx hb d rfl (gl_L_has hl) (show 1 < nL by have := hl.2.2.1; simp at this; omega) rfl (fun ls' h' => k H locs ls' hP hS (gl_L_set (i := 1) hl rfl h' hc))
theorem gl_iinc_1 {o0 : Option Value} {T : List (Option Value)} {x v : Int32} {n : Int} (C : gl_C cc ws own rm ret lay V) (d : decode cc pc = .ok (.iinc 1 n, 3)) (hn : x + Int32.ofInt n = v) (k : gl_G lay ov M' V (pc + 3) (o0 :: some (.int (v)) :: T) st M) (hc : gl_pc (o0 :: some (.int (x)) :: T) 1 = true := by with_unfolding_all rfl) : gl_G lay ov M' V pc (o0 :: some (.int (x)) :: T) st M := by
  obtain ⟨F, p, e, R, s, m, args, below, meth, c, nL⟩ := V
  obtain ⟨hx, hb, hml, hown, hts, hK, hI, hok, hlk, hr, rfl⟩ := C
  intro H locs ls hP hS hl
  obtain ⟨kk, hkk⟩ := List.mem_iff_getElem?.mp (gl_al_mem (i := 1).mpr (show (o0 :: some (Value.int (x)) :: T)[1]? = some (some (.int (x))) from rfl))
  exact lv_iinc hx hb d (gl_L_has hl) hkk hn (show 1 < nL by have := hl.2.2.1; simp at this; omega) rfl (fun ls' h' => k H locs ls' hP hS (gl_L_set (i := 1) hl rfl h' hc))
theorem gl_iincN_1 {o0 : Option Value} {T : List (Option Value)} {a v : Nat} {n : Int} (hn : Int32.ofInt n = nI v) (C : gl_C cc ws own rm ret lay V) (d : decode cc pc = .ok (.iinc 1 n, 3)) (k : gl_G lay ov M' V (pc + 3) (o0 :: some (.int (nI (a + v))) :: T) st M) (hc : gl_pc (o0 :: some (.int (nI a)) :: T) 1 = true := by with_unfolding_all rfl) : gl_G lay ov M' V pc (o0 :: some (.int (nI a)) :: T) st M := gl_iinc_1 C d (by rw [hn]; exact nI_add a v) k hc
theorem gl_iload_2 {o0 o1 : Option Value} {T : List (Option Value)} {x : Int32} (C : gl_C cc ws own rm ret lay V) (d : decode cc pc = .ok (.iload_n 2, 1)) (k : gl_G lay ov M' V (pc + 1) (o0 :: o1 :: some (.int x) :: T) (.int x :: st) M) : gl_G lay ov M' V pc (o0 :: o1 :: some (.int x) :: T) st M := by
  obtain ⟨F, p, e, R, s, m, args, below, meth, c, nL⟩ := V
  obtain ⟨hx, hb, hml, hown, hts, hK, hI, hok, hlk, hr, rfl⟩ := C
  intro H locs ls hP hS hl
  exact lv_iload_n hx hb d rfl (gl_L_at hl (i := 2) rfl) (k H locs ls hP hS hl)
theorem gl_istore_2 {o0 o1 : Option Value} {o : Option Value} {T : List (Option Value)} {x : Int32} (C : gl_C cc ws own rm ret lay V) (d : decode cc pc = .ok (.istore_n 2, 1)) (k : gl_G lay ov M' V (pc + 1) (o0 :: o1 :: some (.int x) :: T) st M) (hc : gl_pc (o0 :: o1 :: o :: T) 2 = true := by with_unfolding_all rfl) : gl_G lay ov M' V pc (o0 :: o1 :: o :: T) (.int x :: st) M := by
  obtain ⟨F, p, e, R, s, m, args, below, meth, c, nL⟩ := V
  obtain ⟨hx, hb, hml, hown, hts, hK, hI, hok, hlk, hr, rfl⟩ := C
  intro H locs ls hP hS hl
  exact lv_istore_n hx hb d rfl (gl_L_has hl) (show 2 < nL by have := hl.2.2.1; simp at this; omega) rfl (fun ls' h' => k H locs ls' hP hS (gl_L_set (i := 2) hl rfl h' hc))
theorem gl_aload_2 {o0 o1 : Option Value} {T : List (Option Value)} {q : Nat} (C : gl_C cc ws own rm ret lay V) (d : decode cc pc = .ok (.aload_n 2, 1)) (k : gl_G lay ov M' V (pc + 1) (o0 :: o1 :: some (.ref q) :: T) (.ref q :: st) M) : gl_G lay ov M' V pc (o0 :: o1 :: some (.ref q) :: T) st M := by
  obtain ⟨F, p, e, R, s, m, args, below, meth, c, nL⟩ := V
  obtain ⟨hx, hb, hml, hown, hts, hK, hI, hok, hlk, hr, rfl⟩ := C
  intro H locs ls hP hS hl
  exact lv_aload_n hx hb d rfl (gl_L_at hl (i := 2) rfl) (k H locs ls hP hS hl)
theorem gl_astore_2 {o0 o1 : Option Value} {o : Option Value} {T : List (Option Value)} {q : Nat} (C : gl_C cc ws own rm ret lay V) (d : decode cc pc = .ok (.astore_n 2, 1)) (k : gl_G lay ov M' V (pc + 1) (o0 :: o1 :: some (.ref q) :: T) st M) (hc : gl_pc (o0 :: o1 :: o :: T) 2 = true := by with_unfolding_all rfl) : gl_G lay ov M' V pc (o0 :: o1 :: o :: T) (.ref q :: st) M := by
  obtain ⟨F, p, e, R, s, m, args, below, meth, c, nL⟩ := V
  obtain ⟨hx, hb, hml, hown, hts, hK, hI, hok, hlk, hr, rfl⟩ := C
  intro H locs ls hP hS hl
  exact lv_astore_n hx hb d rfl (gl_L_has hl) (show 2 < nL by have := hl.2.2.1; simp at this; omega) rfl (fun ls' h' => k H locs ls' hP hS (gl_L_set (i := 2) hl rfl h' hc))
theorem gl_iinc_2 {o0 o1 : Option Value} {T : List (Option Value)} {x v : Int32} {n : Int} (C : gl_C cc ws own rm ret lay V) (d : decode cc pc = .ok (.iinc 2 n, 3)) (hn : x + Int32.ofInt n = v) (k : gl_G lay ov M' V (pc + 3) (o0 :: o1 :: some (.int (v)) :: T) st M) (hc : gl_pc (o0 :: o1 :: some (.int (x)) :: T) 2 = true := by with_unfolding_all rfl) : gl_G lay ov M' V pc (o0 :: o1 :: some (.int (x)) :: T) st M := by
  obtain ⟨F, p, e, R, s, m, args, below, meth, c, nL⟩ := V
  obtain ⟨hx, hb, hml, hown, hts, hK, hI, hok, hlk, hr, rfl⟩ := C
  intro H locs ls hP hS hl
  obtain ⟨kk, hkk⟩ := List.mem_iff_getElem?.mp (gl_al_mem (i := 2).mpr (show (o0 :: o1 :: some (Value.int (x)) :: T)[2]? = some (some (.int (x))) from rfl))
  exact lv_iinc hx hb d (gl_L_has hl) hkk hn (show 2 < nL by have := hl.2.2.1; simp at this; omega) rfl (fun ls' h' => k H locs ls' hP hS (gl_L_set (i := 2) hl rfl h' hc))
theorem gl_iincN_2 {o0 o1 : Option Value} {T : List (Option Value)} {a v : Nat} {n : Int} (hn : Int32.ofInt n = nI v) (C : gl_C cc ws own rm ret lay V) (d : decode cc pc = .ok (.iinc 2 n, 3)) (k : gl_G lay ov M' V (pc + 3) (o0 :: o1 :: some (.int (nI (a + v))) :: T) st M) (hc : gl_pc (o0 :: o1 :: some (.int (nI a)) :: T) 2 = true := by with_unfolding_all rfl) : gl_G lay ov M' V pc (o0 :: o1 :: some (.int (nI a)) :: T) st M := gl_iinc_2 C d (by rw [hn]; exact nI_add a v) k hc
theorem gl_iload_3 {o0 o1 o2 : Option Value} {T : List (Option Value)} {x : Int32} (C : gl_C cc ws own rm ret lay V) (d : decode cc pc = .ok (.iload_n 3, 1)) (k : gl_G lay ov M' V (pc + 1) (o0 :: o1 :: o2 :: some (.int x) :: T) (.int x :: st) M) : gl_G lay ov M' V pc (o0 :: o1 :: o2 :: some (.int x) :: T) st M := by
  obtain ⟨F, p, e, R, s, m, args, below, meth, c, nL⟩ := V
  obtain ⟨hx, hb, hml, hown, hts, hK, hI, hok, hlk, hr, rfl⟩ := C
  intro H locs ls hP hS hl
  exact lv_iload_n hx hb d rfl (gl_L_at hl (i := 3) rfl) (k H locs ls hP hS hl)
theorem gl_istore_3 {o0 o1 o2 : Option Value} {o : Option Value} {T : List (Option Value)} {x : Int32} (C : gl_C cc ws own rm ret lay V) (d : decode cc pc = .ok (.istore_n 3, 1)) (k : gl_G lay ov M' V (pc + 1) (o0 :: o1 :: o2 :: some (.int x) :: T) st M) (hc : gl_pc (o0 :: o1 :: o2 :: o :: T) 3 = true := by with_unfolding_all rfl) : gl_G lay ov M' V pc (o0 :: o1 :: o2 :: o :: T) (.int x :: st) M := by
  obtain ⟨F, p, e, R, s, m, args, below, meth, c, nL⟩ := V
  obtain ⟨hx, hb, hml, hown, hts, hK, hI, hok, hlk, hr, rfl⟩ := C
  intro H locs ls hP hS hl
  exact lv_istore_n hx hb d rfl (gl_L_has hl) (show 3 < nL by have := hl.2.2.1; simp at this; omega) rfl (fun ls' h' => k H locs ls' hP hS (gl_L_set (i := 3) hl rfl h' hc))
theorem gl_aload_3 {o0 o1 o2 : Option Value} {T : List (Option Value)} {q : Nat} (C : gl_C cc ws own rm ret lay V) (d : decode cc pc = .ok (.aload_n 3, 1)) (k : gl_G lay ov M' V (pc + 1) (o0 :: o1 :: o2 :: some (.ref q) :: T) (.ref q :: st) M) : gl_G lay ov M' V pc (o0 :: o1 :: o2 :: some (.ref q) :: T) st M := by
  obtain ⟨F, p, e, R, s, m, args, below, meth, c, nL⟩ := V
  obtain ⟨hx, hb, hml, hown, hts, hK, hI, hok, hlk, hr, rfl⟩ := C
  intro H locs ls hP hS hl
  exact lv_aload_n hx hb d rfl (gl_L_at hl (i := 3) rfl) (k H locs ls hP hS hl)
theorem gl_astore_3 {o0 o1 o2 : Option Value} {o : Option Value} {T : List (Option Value)} {q : Nat} (C : gl_C cc ws own rm ret lay V) (d : decode cc pc = .ok (.astore_n 3, 1)) (k : gl_G lay ov M' V (pc + 1) (o0 :: o1 :: o2 :: some (.ref q) :: T) st M) (hc : gl_pc (o0 :: o1 :: o2 :: o :: T) 3 = true := by with_unfolding_all rfl) : gl_G lay ov M' V pc (o0 :: o1 :: o2 :: o :: T) (.ref q :: st) M := by
  obtain ⟨F, p, e, R, s, m, args, below, meth, c, nL⟩ := V
  obtain ⟨hx, hb, hml, hown, hts, hK, hI, hok, hlk, hr, rfl⟩ := C
  intro H locs ls hP hS hl
  exact lv_astore_n hx hb d rfl (gl_L_has hl) (show 3 < nL by have := hl.2.2.1; simp at this; omega) rfl (fun ls' h' => k H locs ls' hP hS (gl_L_set (i := 3) hl rfl h' hc))
theorem gl_iinc_3 {o0 o1 o2 : Option Value} {T : List (Option Value)} {x v : Int32} {n : Int} (C : gl_C cc ws own rm ret lay V) (d : decode cc pc = .ok (.iinc 3 n, 3)) (hn : x + Int32.ofInt n = v) (k : gl_G lay ov M' V (pc + 3) (o0 :: o1 :: o2 :: some (.int (v)) :: T) st M) (hc : gl_pc (o0 :: o1 :: o2 :: some (.int (x)) :: T) 3 = true := by with_unfolding_all rfl) : gl_G lay ov M' V pc (o0 :: o1 :: o2 :: some (.int (x)) :: T) st M := by
  obtain ⟨F, p, e, R, s, m, args, below, meth, c, nL⟩ := V
  obtain ⟨hx, hb, hml, hown, hts, hK, hI, hok, hlk, hr, rfl⟩ := C
  intro H locs ls hP hS hl
  obtain ⟨kk, hkk⟩ := List.mem_iff_getElem?.mp (gl_al_mem (i := 3).mpr (show (o0 :: o1 :: o2 :: some (Value.int (x)) :: T)[3]? = some (some (.int (x))) from rfl))
  exact lv_iinc hx hb d (gl_L_has hl) hkk hn (show 3 < nL by have := hl.2.2.1; simp at this; omega) rfl (fun ls' h' => k H locs ls' hP hS (gl_L_set (i := 3) hl rfl h' hc))
theorem gl_iincN_3 {o0 o1 o2 : Option Value} {T : List (Option Value)} {a v : Nat} {n : Int} (hn : Int32.ofInt n = nI v) (C : gl_C cc ws own rm ret lay V) (d : decode cc pc = .ok (.iinc 3 n, 3)) (k : gl_G lay ov M' V (pc + 3) (o0 :: o1 :: o2 :: some (.int (nI (a + v))) :: T) st M) (hc : gl_pc (o0 :: o1 :: o2 :: some (.int (nI a)) :: T) 3 = true := by with_unfolding_all rfl) : gl_G lay ov M' V pc (o0 :: o1 :: o2 :: some (.int (nI a)) :: T) st M := gl_iinc_3 C d (by rw [hn]; exact nI_add a v) k hc
theorem gl_iload_4 {o0 o1 o2 o3 : Option Value} {T : List (Option Value)} {x : Int32} (C : gl_C cc ws own rm ret lay V) (d : decode cc pc = .ok (.iload 4, 2)) (k : gl_G lay ov M' V (pc + 2) (o0 :: o1 :: o2 :: o3 :: some (.int x) :: T) (.int x :: st) M) : gl_G lay ov M' V pc (o0 :: o1 :: o2 :: o3 :: some (.int x) :: T) st M := by
  obtain ⟨F, p, e, R, s, m, args, below, meth, c, nL⟩ := V
  obtain ⟨hx, hb, hml, hown, hts, hK, hI, hok, hlk, hr, rfl⟩ := C
  intro H locs ls hP hS hl
  exact lv_iload hx hb d (gl_L_at hl (i := 4) rfl) (k H locs ls hP hS hl)
theorem gl_istore_4 {o0 o1 o2 o3 : Option Value} {o : Option Value} {T : List (Option Value)} {x : Int32} (C : gl_C cc ws own rm ret lay V) (d : decode cc pc = .ok (.istore 4, 2)) (k : gl_G lay ov M' V (pc + 2) (o0 :: o1 :: o2 :: o3 :: some (.int x) :: T) st M) (hc : gl_pc (o0 :: o1 :: o2 :: o3 :: o :: T) 4 = true := by with_unfolding_all rfl) : gl_G lay ov M' V pc (o0 :: o1 :: o2 :: o3 :: o :: T) (.int x :: st) M := by
  obtain ⟨F, p, e, R, s, m, args, below, meth, c, nL⟩ := V
  obtain ⟨hx, hb, hml, hown, hts, hK, hI, hok, hlk, hr, rfl⟩ := C
  intro H locs ls hP hS hl
  exact lv_istore hx hb d (gl_L_has hl) (show 4 < nL by have := hl.2.2.1; simp at this; omega) rfl (fun ls' h' => k H locs ls' hP hS (gl_L_set (i := 4) hl rfl h' hc))
theorem gl_aload_4 {o0 o1 o2 o3 : Option Value} {T : List (Option Value)} {q : Nat} (C : gl_C cc ws own rm ret lay V) (d : decode cc pc = .ok (.aload 4, 2)) (k : gl_G lay ov M' V (pc + 2) (o0 :: o1 :: o2 :: o3 :: some (.ref q) :: T) (.ref q :: st) M) : gl_G lay ov M' V pc (o0 :: o1 :: o2 :: o3 :: some (.ref q) :: T) st M := by
  obtain ⟨F, p, e, R, s, m, args, below, meth, c, nL⟩ := V
  obtain ⟨hx, hb, hml, hown, hts, hK, hI, hok, hlk, hr, rfl⟩ := C
  intro H locs ls hP hS hl
  exact lv_aload hx hb d (gl_L_at hl (i := 4) rfl) (k H locs ls hP hS hl)
theorem gl_astore_4 {o0 o1 o2 o3 : Option Value} {o : Option Value} {T : List (Option Value)} {q : Nat} (C : gl_C cc ws own rm ret lay V) (d : decode cc pc = .ok (.astore 4, 2)) (k : gl_G lay ov M' V (pc + 2) (o0 :: o1 :: o2 :: o3 :: some (.ref q) :: T) st M) (hc : gl_pc (o0 :: o1 :: o2 :: o3 :: o :: T) 4 = true := by with_unfolding_all rfl) : gl_G lay ov M' V pc (o0 :: o1 :: o2 :: o3 :: o :: T) (.ref q :: st) M := by
  obtain ⟨F, p, e, R, s, m, args, below, meth, c, nL⟩ := V
  obtain ⟨hx, hb, hml, hown, hts, hK, hI, hok, hlk, hr, rfl⟩ := C
  intro H locs ls hP hS hl
  exact lv_astore hx hb d (gl_L_has hl) (show 4 < nL by have := hl.2.2.1; simp at this; omega) rfl (fun ls' h' => k H locs ls' hP hS (gl_L_set (i := 4) hl rfl h' hc))
theorem gl_iinc_4 {o0 o1 o2 o3 : Option Value} {T : List (Option Value)} {x v : Int32} {n : Int} (C : gl_C cc ws own rm ret lay V) (d : decode cc pc = .ok (.iinc 4 n, 3)) (hn : x + Int32.ofInt n = v) (k : gl_G lay ov M' V (pc + 3) (o0 :: o1 :: o2 :: o3 :: some (.int (v)) :: T) st M) (hc : gl_pc (o0 :: o1 :: o2 :: o3 :: some (.int (x)) :: T) 4 = true := by with_unfolding_all rfl) : gl_G lay ov M' V pc (o0 :: o1 :: o2 :: o3 :: some (.int (x)) :: T) st M := by
  obtain ⟨F, p, e, R, s, m, args, below, meth, c, nL⟩ := V
  obtain ⟨hx, hb, hml, hown, hts, hK, hI, hok, hlk, hr, rfl⟩ := C
  intro H locs ls hP hS hl
  obtain ⟨kk, hkk⟩ := List.mem_iff_getElem?.mp (gl_al_mem (i := 4).mpr (show (o0 :: o1 :: o2 :: o3 :: some (Value.int (x)) :: T)[4]? = some (some (.int (x))) from rfl))
  exact lv_iinc hx hb d (gl_L_has hl) hkk hn (show 4 < nL by have := hl.2.2.1; simp at this; omega) rfl (fun ls' h' => k H locs ls' hP hS (gl_L_set (i := 4) hl rfl h' hc))
theorem gl_iincN_4 {o0 o1 o2 o3 : Option Value} {T : List (Option Value)} {a v : Nat} {n : Int} (hn : Int32.ofInt n = nI v) (C : gl_C cc ws own rm ret lay V) (d : decode cc pc = .ok (.iinc 4 n, 3)) (k : gl_G lay ov M' V (pc + 3) (o0 :: o1 :: o2 :: o3 :: some (.int (nI (a + v))) :: T) st M) (hc : gl_pc (o0 :: o1 :: o2 :: o3 :: some (.int (nI a)) :: T) 4 = true := by with_unfolding_all rfl) : gl_G lay ov M' V pc (o0 :: o1 :: o2 :: o3 :: some (.int (nI a)) :: T) st M := gl_iinc_4 C d (by rw [hn]; exact nI_add a v) k hc
theorem gl_iload_5 {o0 o1 o2 o3 o4 : Option Value} {T : List (Option Value)} {x : Int32} (C : gl_C cc ws own rm ret lay V) (d : decode cc pc = .ok (.iload 5, 2)) (k : gl_G lay ov M' V (pc + 2) (o0 :: o1 :: o2 :: o3 :: o4 :: some (.int x) :: T) (.int x :: st) M) : gl_G lay ov M' V pc (o0 :: o1 :: o2 :: o3 :: o4 :: some (.int x) :: T) st M := by
  obtain ⟨F, p, e, R, s, m, args, below, meth, c, nL⟩ := V
  obtain ⟨hx, hb, hml, hown, hts, hK, hI, hok, hlk, hr, rfl⟩ := C
  intro H locs ls hP hS hl
  exact lv_iload hx hb d (gl_L_at hl (i := 5) rfl) (k H locs ls hP hS hl)
theorem gl_istore_5 {o0 o1 o2 o3 o4 : Option Value} {o : Option Value} {T : List (Option Value)} {x : Int32} (C : gl_C cc ws own rm ret lay V) (d : decode cc pc = .ok (.istore 5, 2)) (k : gl_G lay ov M' V (pc + 2) (o0 :: o1 :: o2 :: o3 :: o4 :: some (.int x) :: T) st M) (hc : gl_pc (o0 :: o1 :: o2 :: o3 :: o4 :: o :: T) 5 = true := by with_unfolding_all rfl) : gl_G lay ov M' V pc (o0 :: o1 :: o2 :: o3 :: o4 :: o :: T) (.int x :: st) M := by
  obtain ⟨F, p, e, R, s, m, args, below, meth, c, nL⟩ := V
  obtain ⟨hx, hb, hml, hown, hts, hK, hI, hok, hlk, hr, rfl⟩ := C
  intro H locs ls hP hS hl
  exact lv_istore hx hb d (gl_L_has hl) (show 5 < nL by have := hl.2.2.1; simp at this; omega) rfl (fun ls' h' => k H locs ls' hP hS (gl_L_set (i := 5) hl rfl h' hc))
theorem gl_aload_5 {o0 o1 o2 o3 o4 : Option Value} {T : List (Option Value)} {q : Nat} (C : gl_C cc ws own rm ret lay V) (d : decode cc pc = .ok (.aload 5, 2)) (k : gl_G lay ov M' V (pc + 2) (o0 :: o1 :: o2 :: o3 :: o4 :: some (.ref q) :: T) (.ref q :: st) M) : gl_G lay ov M' V pc (o0 :: o1 :: o2 :: o3 :: o4 :: some (.ref q) :: T) st M := by
  obtain ⟨F, p, e, R, s, m, args, below, meth, c, nL⟩ := V
  obtain ⟨hx, hb, hml, hown, hts, hK, hI, hok, hlk, hr, rfl⟩ := C
  intro H locs ls hP hS hl
  exact lv_aload hx hb d (gl_L_at hl (i := 5) rfl) (k H locs ls hP hS hl)
theorem gl_astore_5 {o0 o1 o2 o3 o4 : Option Value} {o : Option Value} {T : List (Option Value)} {q : Nat} (C : gl_C cc ws own rm ret lay V) (d : decode cc pc = .ok (.astore 5, 2)) (k : gl_G lay ov M' V (pc + 2) (o0 :: o1 :: o2 :: o3 :: o4 :: some (.ref q) :: T) st M) (hc : gl_pc (o0 :: o1 :: o2 :: o3 :: o4 :: o :: T) 5 = true := by with_unfolding_all rfl) : gl_G lay ov M' V pc (o0 :: o1 :: o2 :: o3 :: o4 :: o :: T) (.ref q :: st) M := by
  obtain ⟨F, p, e, R, s, m, args, below, meth, c, nL⟩ := V
  obtain ⟨hx, hb, hml, hown, hts, hK, hI, hok, hlk, hr, rfl⟩ := C
  intro H locs ls hP hS hl
  exact lv_astore hx hb d (gl_L_has hl) (show 5 < nL by have := hl.2.2.1; simp at this; omega) rfl (fun ls' h' => k H locs ls' hP hS (gl_L_set (i := 5) hl rfl h' hc))
theorem gl_iinc_5 {o0 o1 o2 o3 o4 : Option Value} {T : List (Option Value)} {x v : Int32} {n : Int} (C : gl_C cc ws own rm ret lay V) (d : decode cc pc = .ok (.iinc 5 n, 3)) (hn : x + Int32.ofInt n = v) (k : gl_G lay ov M' V (pc + 3) (o0 :: o1 :: o2 :: o3 :: o4 :: some (.int (v)) :: T) st M) (hc : gl_pc (o0 :: o1 :: o2 :: o3 :: o4 :: some (.int (x)) :: T) 5 = true := by with_unfolding_all rfl) : gl_G lay ov M' V pc (o0 :: o1 :: o2 :: o3 :: o4 :: some (.int (x)) :: T) st M := by
  obtain ⟨F, p, e, R, s, m, args, below, meth, c, nL⟩ := V
  obtain ⟨hx, hb, hml, hown, hts, hK, hI, hok, hlk, hr, rfl⟩ := C
  intro H locs ls hP hS hl
  obtain ⟨kk, hkk⟩ := List.mem_iff_getElem?.mp (gl_al_mem (i := 5).mpr (show (o0 :: o1 :: o2 :: o3 :: o4 :: some (Value.int (x)) :: T)[5]? = some (some (.int (x))) from rfl))
  exact lv_iinc hx hb d (gl_L_has hl) hkk hn (show 5 < nL by have := hl.2.2.1; simp at this; omega) rfl (fun ls' h' => k H locs ls' hP hS (gl_L_set (i := 5) hl rfl h' hc))
theorem gl_iincN_5 {o0 o1 o2 o3 o4 : Option Value} {T : List (Option Value)} {a v : Nat} {n : Int} (hn : Int32.ofInt n = nI v) (C : gl_C cc ws own rm ret lay V) (d : decode cc pc = .ok (.iinc 5 n, 3)) (k : gl_G lay ov M' V (pc + 3) (o0 :: o1 :: o2 :: o3 :: o4 :: some (.int (nI (a + v))) :: T) st M) (hc : gl_pc (o0 :: o1 :: o2 :: o3 :: o4 :: some (.int (nI a)) :: T) 5 = true := by with_unfolding_all rfl) : gl_G lay ov M' V pc (o0 :: o1 :: o2 :: o3 :: o4 :: some (.int (nI a)) :: T) st M := gl_iinc_5 C d (by rw [hn]; exact nI_add a v) k hc
theorem gl_iload_6 {o0 o1 o2 o3 o4 o5 : Option Value} {T : List (Option Value)} {x : Int32} (C : gl_C cc ws own rm ret lay V) (d : decode cc pc = .ok (.iload 6, 2)) (k : gl_G lay ov M' V (pc + 2) (o0 :: o1 :: o2 :: o3 :: o4 :: o5 :: some (.int x) :: T) (.int x :: st) M) : gl_G lay ov M' V pc (o0 :: o1 :: o2 :: o3 :: o4 :: o5 :: some (.int x) :: T) st M := by
  obtain ⟨F, p, e, R, s, m, args, below, meth, c, nL⟩ := V
  obtain ⟨hx, hb, hml, hown, hts, hK, hI, hok, hlk, hr, rfl⟩ := C
  intro H locs ls hP hS hl
  exact lv_iload hx hb d (gl_L_at hl (i := 6) rfl) (k H locs ls hP hS hl)
theorem gl_istore_6 {o0 o1 o2 o3 o4 o5 : Option Value} {o : Option Value} {T : List (Option Value)} {x : Int32} (C : gl_C cc ws own rm ret lay V) (d : decode cc pc = .ok (.istore 6, 2)) (k : gl_G lay ov M' V (pc + 2) (o0 :: o1 :: o2 :: o3 :: o4 :: o5 :: some (.int x) :: T) st M) (hc : gl_pc (o0 :: o1 :: o2 :: o3 :: o4 :: o5 :: o :: T) 6 = true := by with_unfolding_all rfl) : gl_G lay ov M' V pc (o0 :: o1 :: o2 :: o3 :: o4 :: o5 :: o :: T) (.int x :: st) M := by
  obtain ⟨F, p, e, R, s, m, args, below, meth, c, nL⟩ := V
  obtain ⟨hx, hb, hml, hown, hts, hK, hI, hok, hlk, hr, rfl⟩ := C
  intro H locs ls hP hS hl
  exact lv_istore hx hb d (gl_L_has hl) (show 6 < nL by have := hl.2.2.1; simp at this; omega) rfl (fun ls' h' => k H locs ls' hP hS (gl_L_set (i := 6) hl rfl h' hc))
theorem gl_aload_6 {o0 o1 o2 o3 o4 o5 : Option Value} {T : List (Option Value)} {q : Nat} (C : gl_C cc ws own rm ret lay V) (d : decode cc pc = .ok (.aload 6, 2)) (k : gl_G lay ov M' V (pc + 2) (o0 :: o1 :: o2 :: o3 :: o4 :: o5 :: some (.ref q) :: T) (.ref q :: st) M) : gl_G lay ov M' V pc (o0 :: o1 :: o2 :: o3 :: o4 :: o5 :: some (.ref q) :: T) st M := by
  obtain ⟨F, p, e, R, s, m, args, below, meth, c, nL⟩ := V
  obtain ⟨hx, hb, hml, hown, hts, hK, hI, hok, hlk, hr, rfl⟩ := C
  intro H locs ls hP hS hl
  exact lv_aload hx hb d (gl_L_at hl (i := 6) rfl) (k H locs ls hP hS hl)
theorem gl_astore_6 {o0 o1 o2 o3 o4 o5 : Option Value} {o : Option Value} {T : List (Option Value)} {q : Nat} (C : gl_C cc ws own rm ret lay V) (d : decode cc pc = .ok (.astore 6, 2)) (k : gl_G lay ov M' V (pc + 2) (o0 :: o1 :: o2 :: o3 :: o4 :: o5 :: some (.ref q) :: T) st M) (hc : gl_pc (o0 :: o1 :: o2 :: o3 :: o4 :: o5 :: o :: T) 6 = true := by with_unfolding_all rfl) : gl_G lay ov M' V pc (o0 :: o1 :: o2 :: o3 :: o4 :: o5 :: o :: T) (.ref q :: st) M := by
  obtain ⟨F, p, e, R, s, m, args, below, meth, c, nL⟩ := V
  obtain ⟨hx, hb, hml, hown, hts, hK, hI, hok, hlk, hr, rfl⟩ := C
  intro H locs ls hP hS hl
  exact lv_astore hx hb d (gl_L_has hl) (show 6 < nL by have := hl.2.2.1; simp at this; omega) rfl (fun ls' h' => k H locs ls' hP hS (gl_L_set (i := 6) hl rfl h' hc))
theorem gl_iinc_6 {o0 o1 o2 o3 o4 o5 : Option Value} {T : List (Option Value)} {x v : Int32} {n : Int} (C : gl_C cc ws own rm ret lay V) (d : decode cc pc = .ok (.iinc 6 n, 3)) (hn : x + Int32.ofInt n = v) (k : gl_G lay ov M' V (pc + 3) (o0 :: o1 :: o2 :: o3 :: o4 :: o5 :: some (.int (v)) :: T) st M) (hc : gl_pc (o0 :: o1 :: o2 :: o3 :: o4 :: o5 :: some (.int (x)) :: T) 6 = true := by with_unfolding_all rfl) : gl_G lay ov M' V pc (o0 :: o1 :: o2 :: o3 :: o4 :: o5 :: some (.int (x)) :: T) st M := by
  obtain ⟨F, p, e, R, s, m, args, below, meth, c, nL⟩ := V
  obtain ⟨hx, hb, hml, hown, hts, hK, hI, hok, hlk, hr, rfl⟩ := C
  intro H locs ls hP hS hl
  obtain ⟨kk, hkk⟩ := List.mem_iff_getElem?.mp (gl_al_mem (i := 6).mpr (show (o0 :: o1 :: o2 :: o3 :: o4 :: o5 :: some (Value.int (x)) :: T)[6]? = some (some (.int (x))) from rfl))
  exact lv_iinc hx hb d (gl_L_has hl) hkk hn (show 6 < nL by have := hl.2.2.1; simp at this; omega) rfl (fun ls' h' => k H locs ls' hP hS (gl_L_set (i := 6) hl rfl h' hc))
theorem gl_iincN_6 {o0 o1 o2 o3 o4 o5 : Option Value} {T : List (Option Value)} {a v : Nat} {n : Int} (hn : Int32.ofInt n = nI v) (C : gl_C cc ws own rm ret lay V) (d : decode cc pc = .ok (.iinc 6 n, 3)) (k : gl_G lay ov M' V (pc + 3) (o0 :: o1 :: o2 :: o3 :: o4 :: o5 :: some (.int (nI (a + v))) :: T) st M) (hc : gl_pc (o0 :: o1 :: o2 :: o3 :: o4 :: o5 :: some (.int (nI a)) :: T) 6 = true := by with_unfolding_all rfl) : gl_G lay ov M' V pc (o0 :: o1 :: o2 :: o3 :: o4 :: o5 :: some (.int (nI a)) :: T) st M := gl_iinc_6 C d (by rw [hn]; exact nI_add a v) k hc
theorem gl_iload_7 {o0 o1 o2 o3 o4 o5 o6 : Option Value} {T : List (Option Value)} {x : Int32} (C : gl_C cc ws own rm ret lay V) (d : decode cc pc = .ok (.iload 7, 2)) (k : gl_G lay ov M' V (pc + 2) (o0 :: o1 :: o2 :: o3 :: o4 :: o5 :: o6 :: some (.int x) :: T) (.int x :: st) M) : gl_G lay ov M' V pc (o0 :: o1 :: o2 :: o3 :: o4 :: o5 :: o6 :: some (.int x) :: T) st M := by
  obtain ⟨F, p, e, R, s, m, args, below, meth, c, nL⟩ := V
  obtain ⟨hx, hb, hml, hown, hts, hK, hI, hok, hlk, hr, rfl⟩ := C
  intro H locs ls hP hS hl
  exact lv_iload hx hb d (gl_L_at hl (i := 7) rfl) (k H locs ls hP hS hl)
theorem gl_istore_7 {o0 o1 o2 o3 o4 o5 o6 : Option Value} {o : Option Value} {T : List (Option Value)} {x : Int32} (C : gl_C cc ws own rm ret lay V) (d : decode cc pc = .ok (.istore 7, 2)) (k : gl_G lay ov M' V (pc + 2) (o0 :: o1 :: o2 :: o3 :: o4 :: o5 :: o6 :: some (.int x) :: T) st M) (hc : gl_pc (o0 :: o1 :: o2 :: o3 :: o4 :: o5 :: o6 :: o :: T) 7 = true := by with_unfolding_all rfl) : gl_G lay ov M' V pc (o0 :: o1 :: o2 :: o3 :: o4 :: o5 :: o6 :: o :: T) (.int x :: st) M := by
  obtain ⟨F, p, e, R, s, m, args, below, meth, c, nL⟩ := V
  obtain ⟨hx, hb, hml, hown, hts, hK, hI, hok, hlk, hr, rfl⟩ := C
  intro H locs ls hP hS hl
  exact lv_istore hx hb d (gl_L_has hl) (show 7 < nL by have := hl.2.2.1; simp at this; omega) rfl (fun ls' h' => k H locs ls' hP hS (gl_L_set (i := 7) hl rfl h' hc))
theorem gl_iinc_7 {o0 o1 o2 o3 o4 o5 o6 : Option Value} {T : List (Option Value)} {x v : Int32} {n : Int} (C : gl_C cc ws own rm ret lay V) (d : decode cc pc = .ok (.iinc 7 n, 3)) (hn : x + Int32.ofInt n = v) (k : gl_G lay ov M' V (pc + 3) (o0 :: o1 :: o2 :: o3 :: o4 :: o5 :: o6 :: some (.int (v)) :: T) st M) (hc : gl_pc (o0 :: o1 :: o2 :: o3 :: o4 :: o5 :: o6 :: some (.int (x)) :: T) 7 = true := by with_unfolding_all rfl) : gl_G lay ov M' V pc (o0 :: o1 :: o2 :: o3 :: o4 :: o5 :: o6 :: some (.int (x)) :: T) st M := by
  obtain ⟨F, p, e, R, s, m, args, below, meth, c, nL⟩ := V
  obtain ⟨hx, hb, hml, hown, hts, hK, hI, hok, hlk, hr, rfl⟩ := C
  intro H locs ls hP hS hl
  obtain ⟨kk, hkk⟩ := List.mem_iff_getElem?.mp (gl_al_mem (i := 7).mpr (show (o0 :: o1 :: o2 :: o3 :: o4 :: o5 :: o6 :: some (Value.int (x)) :: T)[7]? = some (some (.int (x))) from rfl))
  exact lv_iinc hx hb d (gl_L_has hl) hkk hn (show 7 < nL by have := hl.2.2.1; simp at this; omega) rfl (fun ls' h' => k H locs ls' hP hS (gl_L_set (i := 7) hl rfl h' hc))
theorem gl_iincN_7 {o0 o1 o2 o3 o4 o5 o6 : Option Value} {T : List (Option Value)} {a v : Nat} {n : Int} (hn : Int32.ofInt n = nI v) (C : gl_C cc ws own rm ret lay V) (d : decode cc pc = .ok (.iinc 7 n, 3)) (k : gl_G lay ov M' V (pc + 3) (o0 :: o1 :: o2 :: o3 :: o4 :: o5 :: o6 :: some (.int (nI (a + v))) :: T) st M) (hc : gl_pc (o0 :: o1 :: o2 :: o3 :: o4 :: o5 :: o6 :: some (.int (nI a)) :: T) 7 = true := by with_unfolding_all rfl) : gl_G lay ov M' V pc (o0 :: o1 :: o2 :: o3 :: o4 :: o5 :: o6 :: some (.int (nI a)) :: T) st M := gl_iinc_7 C d (by rw [hn]; exact nI_add a v) k hc
theorem gl_iload_8 {o0 o1 o2 o3 o4 o5 o6 o7 : Option Value} {T : List (Option Value)} {x : Int32} (C : gl_C cc ws own rm ret lay V) (d : decode cc pc = .ok (.iload 8, 2)) (k : gl_G lay ov M' V (pc + 2) (o0 :: o1 :: o2 :: o3 :: o4 :: o5 :: o6 :: o7 :: some (.int x) :: T) (.int x :: st) M) : gl_G lay ov M' V pc (o0 :: o1 :: o2 :: o3 :: o4 :: o5 :: o6 :: o7 :: some (.int x) :: T) st M := by
  obtain ⟨F, p, e, R, s, m, args, below, meth, c, nL⟩ := V
  obtain ⟨hx, hb, hml, hown, hts, hK, hI, hok, hlk, hr, rfl⟩ := C
  intro H locs ls hP hS hl
  exact lv_iload hx hb d (gl_L_at hl (i := 8) rfl) (k H locs ls hP hS hl)
theorem gl_istore_8 {o0 o1 o2 o3 o4 o5 o6 o7 : Option Value} {o : Option Value} {T : List (Option Value)} {x : Int32} (C : gl_C cc ws own rm ret lay V) (d : decode cc pc = .ok (.istore 8, 2)) (k : gl_G lay ov M' V (pc + 2) (o0 :: o1 :: o2 :: o3 :: o4 :: o5 :: o6 :: o7 :: some (.int x) :: T) st M) (hc : gl_pc (o0 :: o1 :: o2 :: o3 :: o4 :: o5 :: o6 :: o7 :: o :: T) 8 = true := by with_unfolding_all rfl) : gl_G lay ov M' V pc (o0 :: o1 :: o2 :: o3 :: o4 :: o5 :: o6 :: o7 :: o :: T) (.int x :: st) M := by
  obtain ⟨F, p, e, R, s, m, args, below, meth, c, nL⟩ := V
  obtain ⟨hx, hb, hml, hown, hts, hK, hI, hok, hlk, hr, rfl⟩ := C
  intro H locs ls hP hS hl
  exact lv_istore hx hb d (gl_L_has hl) (show 8 < nL by have := hl.2.2.1; simp at this; omega) rfl (fun ls' h' => k H locs ls' hP hS (gl_L_set (i := 8) hl rfl h' hc))
theorem gl_iinc_8 {o0 o1 o2 o3 o4 o5 o6 o7 : Option Value} {T : List (Option Value)} {x v : Int32} {n : Int} (C : gl_C cc ws own rm ret lay V) (d : decode cc pc = .ok (.iinc 8 n, 3)) (hn : x + Int32.ofInt n = v) (k : gl_G lay ov M' V (pc + 3) (o0 :: o1 :: o2 :: o3 :: o4 :: o5 :: o6 :: o7 :: some (.int (v)) :: T) st M) (hc : gl_pc (o0 :: o1 :: o2 :: o3 :: o4 :: o5 :: o6 :: o7 :: some (.int (x)) :: T) 8 = true := by with_unfolding_all rfl) : gl_G lay ov M' V pc (o0 :: o1 :: o2 :: o3 :: o4 :: o5 :: o6 :: o7 :: some (.int (x)) :: T) st M := by
  obtain ⟨F, p, e, R, s, m, args, below, meth, c, nL⟩ := V
  obtain ⟨hx, hb, hml, hown, hts, hK, hI, hok, hlk, hr, rfl⟩ := C
  intro H locs ls hP hS hl
  obtain ⟨kk, hkk⟩ := List.mem_iff_getElem?.mp (gl_al_mem (i := 8).mpr (show (o0 :: o1 :: o2 :: o3 :: o4 :: o5 :: o6 :: o7 :: some (Value.int (x)) :: T)[8]? = some (some (.int (x))) from rfl))
  exact lv_iinc hx hb d (gl_L_has hl) hkk hn (show 8 < nL by have := hl.2.2.1; simp at this; omega) rfl (fun ls' h' => k H locs ls' hP hS (gl_L_set (i := 8) hl rfl h' hc))
theorem gl_iincN_8 {o0 o1 o2 o3 o4 o5 o6 o7 : Option Value} {T : List (Option Value)} {a v : Nat} {n : Int} (hn : Int32.ofInt n = nI v) (C : gl_C cc ws own rm ret lay V) (d : decode cc pc = .ok (.iinc 8 n, 3)) (k : gl_G lay ov M' V (pc + 3) (o0 :: o1 :: o2 :: o3 :: o4 :: o5 :: o6 :: o7 :: some (.int (nI (a + v))) :: T) st M) (hc : gl_pc (o0 :: o1 :: o2 :: o3 :: o4 :: o5 :: o6 :: o7 :: some (.int (nI a)) :: T) 8 = true := by with_unfolding_all rfl) : gl_G lay ov M' V pc (o0 :: o1 :: o2 :: o3 :: o4 :: o5 :: o6 :: o7 :: some (.int (nI a)) :: T) st M := gl_iinc_8 C d (by rw [hn]; exact nI_add a v) k hc
theorem gl_iload_9 {o0 o1 o2 o3 o4 o5 o6 o7 o8 : Option Value} {T : List (Option Value)} {x : Int32} (C : gl_C cc ws own rm ret lay V) (d : decode cc pc = .ok (.iload 9, 2)) (k : gl_G lay ov M' V (pc + 2) (o0 :: o1 :: o2 :: o3 :: o4 :: o5 :: o6 :: o7 :: o8 :: some (.int x) :: T) (.int x :: st) M) : gl_G lay ov M' V pc (o0 :: o1 :: o2 :: o3 :: o4 :: o5 :: o6 :: o7 :: o8 :: some (.int x) :: T) st M := by
  obtain ⟨F, p, e, R, s, m, args, below, meth, c, nL⟩ := V
  obtain ⟨hx, hb, hml, hown, hts, hK, hI, hok, hlk, hr, rfl⟩ := C
  intro H locs ls hP hS hl
  exact lv_iload hx hb d (gl_L_at hl (i := 9) rfl) (k H locs ls hP hS hl)
theorem gl_istore_9 {o0 o1 o2 o3 o4 o5 o6 o7 o8 : Option Value} {o : Option Value} {T : List (Option Value)} {x : Int32} (C : gl_C cc ws own rm ret lay V) (d : decode cc pc = .ok (.istore 9, 2)) (k : gl_G lay ov M' V (pc + 2) (o0 :: o1 :: o2 :: o3 :: o4 :: o5 :: o6 :: o7 :: o8 :: some (.int x) :: T) st M) (hc : gl_pc (o0 :: o1 :: o2 :: o3 :: o4 :: o5 :: o6 :: o7 :: o8 :: o :: T) 9 = true := by with_unfolding_all rfl) : gl_G lay ov M' V pc (o0 :: o1 :: o2 :: o3 :: o4 :: o5 :: o6 :: o7 :: o8 :: o :: T) (.int x :: st) M := by
  obtain ⟨F, p, e, R, s, m, args, below, meth, c, nL⟩ := V
  obtain ⟨hx, hb, hml, hown, hts, hK, hI, hok, hlk, hr, rfl⟩ := C
  intro H locs ls hP hS hl
  exact lv_istore hx hb d (gl_L_has hl) (show 9 < nL by have := hl.2.2.1; simp at this; omega) rfl (fun ls' h' => k H locs ls' hP hS (gl_L_set (i := 9) hl rfl h' hc))
theorem gl_iinc_9 {o0 o1 o2 o3 o4 o5 o6 o7 o8 : Option Value} {T : List (Option Value)} {x v : Int32} {n : Int} (C : gl_C cc ws own rm ret lay V) (d : decode cc pc = .ok (.iinc 9 n, 3)) (hn : x + Int32.ofInt n = v) (k : gl_G lay ov M' V (pc + 3) (o0 :: o1 :: o2 :: o3 :: o4 :: o5 :: o6 :: o7 :: o8 :: some (.int (v)) :: T) st M) (hc : gl_pc (o0 :: o1 :: o2 :: o3 :: o4 :: o5 :: o6 :: o7 :: o8 :: some (.int (x)) :: T) 9 = true := by with_unfolding_all rfl) : gl_G lay ov M' V pc (o0 :: o1 :: o2 :: o3 :: o4 :: o5 :: o6 :: o7 :: o8 :: some (.int (x)) :: T) st M := by
  obtain ⟨F, p, e, R, s, m, args, below, meth, c, nL⟩ := V
  obtain ⟨hx, hb, hml, hown, hts, hK, hI, hok, hlk, hr, rfl⟩ := C
  intro H locs ls hP hS hl
  obtain ⟨kk, hkk⟩ := List.mem_iff_getElem?.mp (gl_al_mem (i := 9).mpr (show (o0 :: o1 :: o2 :: o3 :: o4 :: o5 :: o6 :: o7 :: o8 :: some (Value.int (x)) :: T)[9]? = some (some (.int (x))) from rfl))
  exact lv_iinc hx hb d (gl_L_has hl) hkk hn (show 9 < nL by have := hl.2.2.1; simp at this; omega) rfl (fun ls' h' => k H locs ls' hP hS (gl_L_set (i := 9) hl rfl h' hc))
theorem gl_iincN_9 {o0 o1 o2 o3 o4 o5 o6 o7 o8 : Option Value} {T : List (Option Value)} {a v : Nat} {n : Int} (hn : Int32.ofInt n = nI v) (C : gl_C cc ws own rm ret lay V) (d : decode cc pc = .ok (.iinc 9 n, 3)) (k : gl_G lay ov M' V (pc + 3) (o0 :: o1 :: o2 :: o3 :: o4 :: o5 :: o6 :: o7 :: o8 :: some (.int (nI (a + v))) :: T) st M) (hc : gl_pc (o0 :: o1 :: o2 :: o3 :: o4 :: o5 :: o6 :: o7 :: o8 :: some (.int (nI a)) :: T) 9 = true := by with_unfolding_all rfl) : gl_G lay ov M' V pc (o0 :: o1 :: o2 :: o3 :: o4 :: o5 :: o6 :: o7 :: o8 :: some (.int (nI a)) :: T) st M := gl_iinc_9 C d (by rw [hn]; exact nI_add a v) k hc
theorem gl_iload_10 {o0 o1 o2 o3 o4 o5 o6 o7 o8 o9 : Option Value} {T : List (Option Value)} {x : Int32} (C : gl_C cc ws own rm ret lay V) (d : decode cc pc = .ok (.iload 10, 2)) (k : gl_G lay ov M' V (pc + 2) (o0 :: o1 :: o2 :: o3 :: o4 :: o5 :: o6 :: o7 :: o8 :: o9 :: some (.int x) :: T) (.int x :: st) M) : gl_G lay ov M' V pc (o0 :: o1 :: o2 :: o3 :: o4 :: o5 :: o6 :: o7 :: o8 :: o9 :: some (.int x) :: T) st M := by
  obtain ⟨F, p, e, R, s, m, args, below, meth, c, nL⟩ := V
  obtain ⟨hx, hb, hml, hown, hts, hK, hI, hok, hlk, hr, rfl⟩ := C
  intro H locs ls hP hS hl
  exact lv_iload hx hb d (gl_L_at hl (i := 10) rfl) (k H locs ls hP hS hl)
theorem gl_istore_10 {o0 o1 o2 o3 o4 o5 o6 o7 o8 o9 : Option Value} {o : Option Value} {T : List (Option Value)} {x : Int32} (C : gl_C cc ws own rm ret lay V) (d : decode cc pc = .ok (.istore 10, 2)) (k : gl_G lay ov M' V (pc + 2) (o0 :: o1 :: o2 :: o3 :: o4 :: o5 :: o6 :: o7 :: o8 :: o9 :: some (.int x) :: T) st M) (hc : gl_pc (o0 :: o1 :: o2 :: o3 :: o4 :: o5 :: o6 :: o7 :: o8 :: o9 :: o :: T) 10 = true := by with_unfolding_all rfl) : gl_G lay ov M' V pc (o0 :: o1 :: o2 :: o3 :: o4 :: o5 :: o6 :: o7 :: o8 :: o9 :: o :: T) (.int x :: st) M := by
  obtain ⟨F, p, e, R, s, m, args, below, meth, c, nL⟩ := V
  obtain ⟨hx, hb, hml, hown, hts, hK, hI, hok, hlk, hr, rfl⟩ := C
  intro H locs ls hP hS hl
  exact lv_istore hx hb d (gl_L_has hl) (show 10 < nL by have := hl.2.2.1; simp at this; omega) rfl (fun ls' h' => k H locs ls' hP hS (gl_L_set (i := 10) hl rfl h' hc))
theorem gl_iinc_10 {o0 o1 o2 o3 o4 o5 o6 o7 o8 o9 : Option Value} {T : List (Option Value)} {x v : Int32} {n : Int} (C : gl_C cc ws own rm ret lay V) (d : decode cc pc = .ok (.iinc 10 n, 3)) (hn : x + Int32.ofInt n = v) (k : gl_G lay ov M' V (pc + 3) (o0 :: o1 :: o2 :: o3 :: o4 :: o5 :: o6 :: o7 :: o8 :: o9 :: some (.int (v)) :: T) st M) (hc : gl_pc (o0 :: o1 :: o2 :: o3 :: o4 :: o5 :: o6 :: o7 :: o8 :: o9 :: some (.int (x)) :: T) 10 = true := by with_unfolding_all rfl) : gl_G lay ov M' V pc (o0 :: o1 :: o2 :: o3 :: o4 :: o5 :: o6 :: o7 :: o8 :: o9 :: some (.int (x)) :: T) st M := by
  obtain ⟨F, p, e, R, s, m, args, below, meth, c, nL⟩ := V
  obtain ⟨hx, hb, hml, hown, hts, hK, hI, hok, hlk, hr, rfl⟩ := C
  intro H locs ls hP hS hl
  obtain ⟨kk, hkk⟩ := List.mem_iff_getElem?.mp (gl_al_mem (i := 10).mpr (show (o0 :: o1 :: o2 :: o3 :: o4 :: o5 :: o6 :: o7 :: o8 :: o9 :: some (Value.int (x)) :: T)[10]? = some (some (.int (x))) from rfl))
  exact lv_iinc hx hb d (gl_L_has hl) hkk hn (show 10 < nL by have := hl.2.2.1; simp at this; omega) rfl (fun ls' h' => k H locs ls' hP hS (gl_L_set (i := 10) hl rfl h' hc))
theorem gl_iincN_10 {o0 o1 o2 o3 o4 o5 o6 o7 o8 o9 : Option Value} {T : List (Option Value)} {a v : Nat} {n : Int} (hn : Int32.ofInt n = nI v) (C : gl_C cc ws own rm ret lay V) (d : decode cc pc = .ok (.iinc 10 n, 3)) (k : gl_G lay ov M' V (pc + 3) (o0 :: o1 :: o2 :: o3 :: o4 :: o5 :: o6 :: o7 :: o8 :: o9 :: some (.int (nI (a + v))) :: T) st M) (hc : gl_pc (o0 :: o1 :: o2 :: o3 :: o4 :: o5 :: o6 :: o7 :: o8 :: o9 :: some (.int (nI a)) :: T) 10 = true := by with_unfolding_all rfl) : gl_G lay ov M' V pc (o0 :: o1 :: o2 :: o3 :: o4 :: o5 :: o6 :: o7 :: o8 :: o9 :: some (.int (nI a)) :: T) st M := gl_iinc_10 C d (by rw [hn]; exact nI_add a v) k hc
theorem gl_iload_11 {o0 o1 o2 o3 o4 o5 o6 o7 o8 o9 o10 : Option Value} {T : List (Option Value)} {x : Int32} (C : gl_C cc ws own rm ret lay V) (d : decode cc pc = .ok (.iload 11, 2)) (k : gl_G lay ov M' V (pc + 2) (o0 :: o1 :: o2 :: o3 :: o4 :: o5 :: o6 :: o7 :: o8 :: o9 :: o10 :: some (.int x) :: T) (.int x :: st) M) : gl_G lay ov M' V pc (o0 :: o1 :: o2 :: o3 :: o4 :: o5 :: o6 :: o7 :: o8 :: o9 :: o10 :: some (.int x) :: T) st M := by
  obtain ⟨F, p, e, R, s, m, args, below, meth, c, nL⟩ := V
  obtain ⟨hx, hb, hml, hown, hts, hK, hI, hok, hlk, hr, rfl⟩ := C
  intro H locs ls hP hS hl
  exact lv_iload hx hb d (gl_L_at hl (i := 11) rfl) (k H locs ls hP hS hl)
theorem gl_istore_11 {o0 o1 o2 o3 o4 o5 o6 o7 o8 o9 o10 : Option Value} {o : Option Value} {T : List (Option Value)} {x : Int32} (C : gl_C cc ws own rm ret lay V) (d : decode cc pc = .ok (.istore 11, 2)) (k : gl_G lay ov M' V (pc + 2) (o0 :: o1 :: o2 :: o3 :: o4 :: o5 :: o6 :: o7 :: o8 :: o9 :: o10 :: some (.int x) :: T) st M) (hc : gl_pc (o0 :: o1 :: o2 :: o3 :: o4 :: o5 :: o6 :: o7 :: o8 :: o9 :: o10 :: o :: T) 11 = true := by with_unfolding_all rfl) : gl_G lay ov M' V pc (o0 :: o1 :: o2 :: o3 :: o4 :: o5 :: o6 :: o7 :: o8 :: o9 :: o10 :: o :: T) (.int x :: st) M := by
  obtain ⟨F, p, e, R, s, m, args, below, meth, c, nL⟩ := V
  obtain ⟨hx, hb, hml, hown, hts, hK, hI, hok, hlk, hr, rfl⟩ := C
  intro H locs ls hP hS hl
  exact lv_istore hx hb d (gl_L_has hl) (show 11 < nL by have := hl.2.2.1; simp at this; omega) rfl (fun ls' h' => k H locs ls' hP hS (gl_L_set (i := 11) hl rfl h' hc))
theorem gl_iinc_11 {o0 o1 o2 o3 o4 o5 o6 o7 o8 o9 o10 : Option Value} {T : List (Option Value)} {x v : Int32} {n : Int} (C : gl_C cc ws own rm ret lay V) (d : decode cc pc = .ok (.iinc 11 n, 3)) (hn : x + Int32.ofInt n = v) (k : gl_G lay ov M' V (pc + 3) (o0 :: o1 :: o2 :: o3 :: o4 :: o5 :: o6 :: o7 :: o8 :: o9 :: o10 :: some (.int (v)) :: T) st M) (hc : gl_pc (o0 :: o1 :: o2 :: o3 :: o4 :: o5 :: o6 :: o7 :: o8 :: o9 :: o10 :: some (.int (x)) :: T) 11 = true := by with_unfolding_all rfl) : gl_G lay ov M' V pc (o0 :: o1 :: o2 :: o3 :: o4 :: o5 :: o6 :: o7 :: o8 :: o9 :: o10 :: some (.int (x)) :: T) st M := by
  obtain ⟨F, p, e, R, s, m, args, below, meth, c, nL⟩ := V
  obtain ⟨hx, hb, hml, hown, hts, hK, hI, hok, hlk, hr, rfl⟩ := C
  intro H locs ls hP hS hl
  obtain ⟨kk, hkk⟩ := List.mem_iff_getElem?.mp (gl_al_mem (i := 11).mpr (show (o0 :: o1 :: o2 :: o3 :: o4 :: o5 :: o6 :: o7 :: o8 :: o9 :: o10 :: some (Value.int (x)) :: T)[11]? = some (some (.int (x))) from rfl))
  exact lv_iinc hx hb d (gl_L_has hl) hkk hn (show 11 < nL by have := hl.2.2.1; simp at this; omega) rfl (fun ls' h' => k H locs ls' hP hS (gl_L_set (i := 11) hl rfl h' hc))
theorem gl_iincN_11 {o0 o1 o2 o3 o4 o5 o6 o7 o8 o9 o10 : Option Value} {T : List (Option Value)} {a v : Nat} {n : Int} (hn : Int32.ofInt n = nI v) (C : gl_C cc ws own rm ret lay V) (d : decode cc pc = .ok (.iinc 11 n, 3)) (k : gl_G lay ov M' V (pc + 3) (o0 :: o1 :: o2 :: o3 :: o4 :: o5 :: o6 :: o7 :: o8 :: o9 :: o10 :: some (.int (nI (a + v))) :: T) st M) (hc : gl_pc (o0 :: o1 :: o2 :: o3 :: o4 :: o5 :: o6 :: o7 :: o8 :: o9 :: o10 :: some (.int (nI a)) :: T) 11 = true := by with_unfolding_all rfl) : gl_G lay ov M' V pc (o0 :: o1 :: o2 :: o3 :: o4 :: o5 :: o6 :: o7 :: o8 :: o9 :: o10 :: some (.int (nI a)) :: T) st M := gl_iinc_11 C d (by rw [hn]; exact nI_add a v) k hc
theorem gl_iload_12 {o0 o1 o2 o3 o4 o5 o6 o7 o8 o9 o10 o11 : Option Value} {T : List (Option Value)} {x : Int32} (C : gl_C cc ws own rm ret lay V) (d : decode cc pc = .ok (.iload 12, 2)) (k : gl_G lay ov M' V (pc + 2) (o0 :: o1 :: o2 :: o3 :: o4 :: o5 :: o6 :: o7 :: o8 :: o9 :: o10 :: o11 :: some (.int x) :: T) (.int x :: st) M) : gl_G lay ov M' V pc (o0 :: o1 :: o2 :: o3 :: o4 :: o5 :: o6 :: o7 :: o8 :: o9 :: o10 :: o11 :: some (.int x) :: T) st M := by
  obtain ⟨F, p, e, R, s, m, args, below, meth, c, nL⟩ := V
  obtain ⟨hx, hb, hml, hown, hts, hK, hI, hok, hlk, hr, rfl⟩ := C
  intro H locs ls hP hS hl
  exact lv_iload hx hb d (gl_L_at hl (i := 12) rfl) (k H locs ls hP hS hl)
theorem gl_istore_12 {o0 o1 o2 o3 o4 o5 o6 o7 o8 o9 o10 o11 : Option Value} {o : Option Value} {T : List (Option Value)} {x : Int32} (C : gl_C cc ws own rm ret lay V) (d : decode cc pc = .ok (.istore 12, 2)) (k : gl_G lay ov M' V (pc + 2) (o0 :: o1 :: o2 :: o3 :: o4 :: o5 :: o6 :: o7 :: o8 :: o9 :: o10 :: o11 :: some (.int x) :: T) st M) (hc : gl_pc (o0 :: o1 :: o2 :: o3 :: o4 :: o5 :: o6 :: o7 :: o8 :: o9 :: o10 :: o11 :: o :: T) 12 = true := by with_unfolding_all rfl) : gl_G lay ov M' V pc (o0 :: o1 :: o2 :: o3 :: o4 :: o5 :: o6 :: o7 :: o8 :: o9 :: o10 :: o11 :: o :: T) (.int x :: st) M := by
  obtain ⟨F, p, e, R, s, m, args, below, meth, c, nL⟩ := V
  obtain ⟨hx, hb, hml, hown, hts, hK, hI, hok, hlk, hr, rfl⟩ := C
  intro H locs ls hP hS hl
  exact lv_istore hx hb d (gl_L_has hl) (show 12 < nL by have := hl.2.2.1; simp at this; omega) rfl (fun ls' h' => k H locs ls' hP hS (gl_L_set (i := 12) hl rfl h' hc))
theorem gl_iinc_12 {o0 o1 o2 o3 o4 o5 o6 o7 o8 o9 o10 o11 : Option Value} {T : List (Option Value)} {x v : Int32} {n : Int} (C : gl_C cc ws own rm ret lay V) (d : decode cc pc = .ok (.iinc 12 n, 3)) (hn : x + Int32.ofInt n = v) (k : gl_G lay ov M' V (pc + 3) (o0 :: o1 :: o2 :: o3 :: o4 :: o5 :: o6 :: o7 :: o8 :: o9 :: o10 :: o11 :: some (.int (v)) :: T) st M) (hc : gl_pc (o0 :: o1 :: o2 :: o3 :: o4 :: o5 :: o6 :: o7 :: o8 :: o9 :: o10 :: o11 :: some (.int (x)) :: T) 12 = true := by with_unfolding_all rfl) : gl_G lay ov M' V pc (o0 :: o1 :: o2 :: o3 :: o4 :: o5 :: o6 :: o7 :: o8 :: o9 :: o10 :: o11 :: some (.int (x)) :: T) st M := by
  obtain ⟨F, p, e, R, s, m, args, below, meth, c, nL⟩ := V
  obtain ⟨hx, hb, hml, hown, hts, hK, hI, hok, hlk, hr, rfl⟩ := C
  intro H locs ls hP hS hl
  obtain ⟨kk, hkk⟩ := List.mem_iff_getElem?.mp (gl_al_mem (i := 12).mpr (show (o0 :: o1 :: o2 :: o3 :: o4 :: o5 :: o6 :: o7 :: o8 :: o9 :: o10 :: o11 :: some (Value.int (x)) :: T)[12]? = some (some (.int (x))) from rfl))
  exact lv_iinc hx hb d (gl_L_has hl) hkk hn (show 12 < nL by have := hl.2.2.1; simp at this; omega) rfl (fun ls' h' => k H locs ls' hP hS (gl_L_set (i := 12) hl rfl h' hc))
theorem gl_iincN_12 {o0 o1 o2 o3 o4 o5 o6 o7 o8 o9 o10 o11 : Option Value} {T : List (Option Value)} {a v : Nat} {n : Int} (hn : Int32.ofInt n = nI v) (C : gl_C cc ws own rm ret lay V) (d : decode cc pc = .ok (.iinc 12 n, 3)) (k : gl_G lay ov M' V (pc + 3) (o0 :: o1 :: o2 :: o3 :: o4 :: o5 :: o6 :: o7 :: o8 :: o9 :: o10 :: o11 :: some (.int (nI (a + v))) :: T) st M) (hc : gl_pc (o0 :: o1 :: o2 :: o3 :: o4 :: o5 :: o6 :: o7 :: o8 :: o9 :: o10 :: o11 :: some (.int (nI a)) :: T) 12 = true := by with_unfolding_all rfl) : gl_G lay ov M' V pc (o0 :: o1 :: o2 :: o3 :: o4 :: o5 :: o6 :: o7 :: o8 :: o9 :: o10 :: o11 :: some (.int (nI a)) :: T) st M := gl_iinc_12 C d (by rw [hn]; exact nI_add a v) k hc
theorem gl_iload_13 {o0 o1 o2 o3 o4 o5 o6 o7 o8 o9 o10 o11 o12 : Option Value} {T : List (Option Value)} {x : Int32} (C : gl_C cc ws own rm ret lay V) (d : decode cc pc = .ok (.iload 13, 2)) (k : gl_G lay ov M' V (pc + 2) (o0 :: o1 :: o2 :: o3 :: o4 :: o5 :: o6 :: o7 :: o8 :: o9 :: o10 :: o11 :: o12 :: some (.int x) :: T) (.int x :: st) M) : gl_G lay ov M' V pc (o0 :: o1 :: o2 :: o3 :: o4 :: o5 :: o6 :: o7 :: o8 :: o9 :: o10 :: o11 :: o12 :: some (.int x) :: T) st M := by
  obtain ⟨F, p, e, R, s, m, args, below, meth, c, nL⟩ := V
  obtain ⟨hx, hb, hml, hown, hts, hK, hI, hok, hlk, hr, rfl⟩ := C
  intro H locs ls hP hS hl
  exact lv_iload hx hb d (gl_L_at hl (i := 13) rfl) (k H locs ls hP hS hl)
theorem gl_istore_13 {o0 o1 o2 o3 o4 o5 o6 o7 o8 o9 o10 o11 o12 : Option Value} {o : Option Value} {T : List (Option Value)} {x : Int32} (C : gl_C cc ws own rm ret lay V) (d : decode cc pc = .ok (.istore 13, 2)) (k : gl_G lay ov M' V (pc + 2) (o0 :: o1 :: o2 :: o3 :: o4 :: o5 :: o6 :: o7 :: o8 :: o9 :: o10 :: o11 :: o12 :: some (.int x) :: T) st M) (hc : gl_pc (o0 :: o1 :: o2 :: o3 :: o4 :: o5 :: o6 :: o7 :: o8 :: o9 :: o10 :: o11 :: o12 :: o :: T) 13 = true := by with_unfolding_all rfl) : gl_G lay ov M' V pc (o0 :: o1 :: o2 :: o3 :: o4 :: o5 :: o6 :: o7 :: o8 :: o9 :: o10 :: o11 :: o12 :: o :: T) (.int x :: st) M := by
  obtain ⟨F, p, e, R, s, m, args, below, meth, c, nL⟩ := V
  obtain ⟨hx, hb, hml, hown, hts, hK, hI, hok, hlk, hr, rfl⟩ := C
  intro H locs ls hP hS hl
  exact lv_istore hx hb d (gl_L_has hl) (show 13 < nL by have := hl.2.2.1; simp at this; omega) rfl (fun ls' h' => k H locs ls' hP hS (gl_L_set (i := 13) hl rfl h' hc))
theorem gl_iinc_13 {o0 o1 o2 o3 o4 o5 o6 o7 o8 o9 o10 o11 o12 : Option Value} {T : List (Option Value)} {x v : Int32} {n : Int} (C : gl_C cc ws own rm ret lay V) (d : decode cc pc = .ok (.iinc 13 n, 3)) (hn : x + Int32.ofInt n = v) (k : gl_G lay ov M' V (pc + 3) (o0 :: o1 :: o2 :: o3 :: o4 :: o5 :: o6 :: o7 :: o8 :: o9 :: o10 :: o11 :: o12 :: some (.int (v)) :: T) st M) (hc : gl_pc (o0 :: o1 :: o2 :: o3 :: o4 :: o5 :: o6 :: o7 :: o8 :: o9 :: o10 :: o11 :: o12 :: some (.int (x)) :: T) 13 = true := by with_unfolding_all rfl) : gl_G lay ov M' V pc (o0 :: o1 :: o2 :: o3 :: o4 :: o5 :: o6 :: o7 :: o8 :: o9 :: o10 :: o11 :: o12 :: some (.int (x)) :: T) st M := by
  obtain ⟨F, p, e, R, s, m, args, below, meth, c, nL⟩ := V
  obtain ⟨hx, hb, hml, hown, hts, hK, hI, hok, hlk, hr, rfl⟩ := C
  intro H locs ls hP hS hl
  obtain ⟨kk, hkk⟩ := List.mem_iff_getElem?.mp (gl_al_mem (i := 13).mpr (show (o0 :: o1 :: o2 :: o3 :: o4 :: o5 :: o6 :: o7 :: o8 :: o9 :: o10 :: o11 :: o12 :: some (Value.int (x)) :: T)[13]? = some (some (.int (x))) from rfl))
  exact lv_iinc hx hb d (gl_L_has hl) hkk hn (show 13 < nL by have := hl.2.2.1; simp at this; omega) rfl (fun ls' h' => k H locs ls' hP hS (gl_L_set (i := 13) hl rfl h' hc))
theorem gl_iincN_13 {o0 o1 o2 o3 o4 o5 o6 o7 o8 o9 o10 o11 o12 : Option Value} {T : List (Option Value)} {a v : Nat} {n : Int} (hn : Int32.ofInt n = nI v) (C : gl_C cc ws own rm ret lay V) (d : decode cc pc = .ok (.iinc 13 n, 3)) (k : gl_G lay ov M' V (pc + 3) (o0 :: o1 :: o2 :: o3 :: o4 :: o5 :: o6 :: o7 :: o8 :: o9 :: o10 :: o11 :: o12 :: some (.int (nI (a + v))) :: T) st M) (hc : gl_pc (o0 :: o1 :: o2 :: o3 :: o4 :: o5 :: o6 :: o7 :: o8 :: o9 :: o10 :: o11 :: o12 :: some (.int (nI a)) :: T) 13 = true := by with_unfolding_all rfl) : gl_G lay ov M' V pc (o0 :: o1 :: o2 :: o3 :: o4 :: o5 :: o6 :: o7 :: o8 :: o9 :: o10 :: o11 :: o12 :: some (.int (nI a)) :: T) st M := gl_iinc_13 C d (by rw [hn]; exact nI_add a v) k hc
theorem gl_iload_14 {o0 o1 o2 o3 o4 o5 o6 o7 o8 o9 o10 o11 o12 o13 : Option Value} {T : List (Option Value)} {x : Int32} (C : gl_C cc ws own rm ret lay V) (d : decode cc pc = .ok (.iload 14, 2)) (k : gl_G lay ov M' V (pc + 2) (o0 :: o1 :: o2 :: o3 :: o4 :: o5 :: o6 :: o7 :: o8 :: o9 :: o10 :: o11 :: o12 :: o13 :: some (.int x) :: T) (.int x :: st) M) : gl_G lay ov M' V pc (o0 :: o1 :: o2 :: o3 :: o4 :: o5 :: o6 :: o7 :: o8 :: o9 :: o10 :: o11 :: o12 :: o13 :: some (.int x) :: T) st M := by
  obtain ⟨F, p, e, R, s, m, args, below, meth, c, nL⟩ := V
  obtain ⟨hx, hb, hml, hown, hts, hK, hI, hok, hlk, hr, rfl⟩ := C
  intro H locs ls hP hS hl
  exact lv_iload hx hb d (gl_L_at hl (i := 14) rfl) (k H locs ls hP hS hl)
theorem gl_istore_14 {o0 o1 o2 o3 o4 o5 o6 o7 o8 o9 o10 o11 o12 o13 : Option Value} {o : Option Value} {T : List (Option Value)} {x : Int32} (C : gl_C cc ws own rm ret lay V) (d : decode cc pc = .ok (.istore 14, 2)) (k : gl_G lay ov M' V (pc + 2) (o0 :: o1 :: o2 :: o3 :: o4 :: o5 :: o6 :: o7 :: o8 :: o9 :: o10 :: o11 :: o12 :: o13 :: some (.int x) :: T) st M) (hc : gl_pc (o0 :: o1 :: o2 :: o3 :: o4 :: o5 :: o6 :: o7 :: o8 :: o9 :: o10 :: o11 :: o12 :: o13 :: o :: T) 14 = true := by with_unfolding_all rfl) : gl_G lay ov M' V pc (o0 :: o1 :: o2 :: o3 :: o4 :: o5 :: o6 :: o7 :: o8 :: o9 :: o10 :: o11 :: o12 :: o13 :: o :: T) (.int x :: st) M := by
  obtain ⟨F, p, e, R, s, m, args, below, meth, c, nL⟩ := V
  obtain ⟨hx, hb, hml, hown, hts, hK, hI, hok, hlk, hr, rfl⟩ := C
  intro H locs ls hP hS hl
  exact lv_istore hx hb d (gl_L_has hl) (show 14 < nL by have := hl.2.2.1; simp at this; omega) rfl (fun ls' h' => k H locs ls' hP hS (gl_L_set (i := 14) hl rfl h' hc))
theorem gl_iinc_14 {o0 o1 o2 o3 o4 o5 o6 o7 o8 o9 o10 o11 o12 o13 : Option Value} {T : List (Option Value)} {x v : Int32} {n : Int} (C : gl_C cc ws own rm ret lay V) (d : decode cc pc = .ok (.iinc 14 n, 3)) (hn : x + Int32.ofInt n = v) (k : gl_G lay ov M' V (pc + 3) (o0 :: o1 :: o2 :: o3 :: o4 :: o5 :: o6 :: o7 :: o8 :: o9 :: o10 :: o11 :: o12 :: o13 :: some (.int (v)) :: T) st M) (hc : gl_pc (o0 :: o1 :: o2 :: o3 :: o4 :: o5 :: o6 :: o7 :: o8 :: o9 :: o10 :: o11 :: o12 :: o13 :: some (.int (x)) :: T) 14 = true := by with_unfolding_all rfl) : gl_G lay ov M' V pc (o0 :: o1 :: o2 :: o3 :: o4 :: o5 :: o6 :: o7 :: o8 :: o9 :: o10 :: o11 :: o12 :: o13 :: some (.int (x)) :: T) st M := by
  obtain ⟨F, p, e, R, s, m, args, below, meth, c, nL⟩ := V
  obtain ⟨hx, hb, hml, hown, hts, hK, hI, hok, hlk, hr, rfl⟩ := C
  intro H locs ls hP hS hl
  obtain ⟨kk, hkk⟩ := List.mem_iff_getElem?.mp (gl_al_mem (i := 14).mpr (show (o0 :: o1 :: o2 :: o3 :: o4 :: o5 :: o6 :: o7 :: o8 :: o9 :: o10 :: o11 :: o12 :: o13 :: some (Value.int (x)) :: T)[14]? = some (some (.int (x))) from rfl))
  exact lv_iinc hx hb d (gl_L_has hl) hkk hn (show 14 < nL by have := hl.2.2.1; simp at this; omega) rfl (fun ls' h' => k H locs ls' hP hS (gl_L_set (i := 14) hl rfl h' hc))
theorem gl_iincN_14 {o0 o1 o2 o3 o4 o5 o6 o7 o8 o9 o10 o11 o12 o13 : Option Value} {T : List (Option Value)} {a v : Nat} {n : Int} (hn : Int32.ofInt n = nI v) (C : gl_C cc ws own rm ret lay V) (d : decode cc pc = .ok (.iinc 14 n, 3)) (k : gl_G lay ov M' V (pc + 3) (o0 :: o1 :: o2 :: o3 :: o4 :: o5 :: o6 :: o7 :: o8 :: o9 :: o10 :: o11 :: o12 :: o13 :: some (.int (nI (a + v))) :: T) st M) (hc : gl_pc (o0 :: o1 :: o2 :: o3 :: o4 :: o5 :: o6 :: o7 :: o8 :: o9 :: o10 :: o11 :: o12 :: o13 :: some (.int (nI a)) :: T) 14 = true := by with_unfolding_all rfl) : gl_G lay ov M' V pc (o0 :: o1 :: o2 :: o3 :: o4 :: o5 :: o6 :: o7 :: o8 :: o9 :: o10 :: o11 :: o12 :: o13 :: some (.int (nI a)) :: T) st M := gl_iinc_14 C d (by rw [hn]; exact nI_add a v) k hc
theorem gl_iload_15 {o0 o1 o2 o3 o4 o5 o6 o7 o8 o9 o10 o11 o12 o13 o14 : Option Value} {T : List (Option Value)} {x : Int32} (C : gl_C cc ws own rm ret lay V) (d : decode cc pc = .ok (.iload 15, 2)) (k : gl_G lay ov M' V (pc + 2) (o0 :: o1 :: o2 :: o3 :: o4 :: o5 :: o6 :: o7 :: o8 :: o9 :: o10 :: o11 :: o12 :: o13 :: o14 :: some (.int x) :: T) (.int x :: st) M) : gl_G lay ov M' V pc (o0 :: o1 :: o2 :: o3 :: o4 :: o5 :: o6 :: o7 :: o8 :: o9 :: o10 :: o11 :: o12 :: o13 :: o14 :: some (.int x) :: T) st M := by
  obtain ⟨F, p, e, R, s, m, args, below, meth, c, nL⟩ := V
  obtain ⟨hx, hb, hml, hown, hts, hK, hI, hok, hlk, hr, rfl⟩ := C
  intro H locs ls hP hS hl
  exact lv_iload hx hb d (gl_L_at hl (i := 15) rfl) (k H locs ls hP hS hl)
theorem gl_istore_15 {o0 o1 o2 o3 o4 o5 o6 o7 o8 o9 o10 o11 o12 o13 o14 : Option Value} {o : Option Value} {T : List (Option Value)} {x : Int32} (C : gl_C cc ws own rm ret lay V) (d : decode cc pc = .ok (.istore 15, 2)) (k : gl_G lay ov M' V (pc + 2) (o0 :: o1 :: o2 :: o3 :: o4 :: o5 :: o6 :: o7 :: o8 :: o9 :: o10 :: o11 :: o12 :: o13 :: o14 :: some (.int x) :: T) st M) (hc : gl_pc (o0 :: o1 :: o2 :: o3 :: o4 :: o5 :: o6 :: o7 :: o8 :: o9 :: o10 :: o11 :: o12 :: o13 :: o14 :: o :: T) 15 = true := by with_unfolding_all rfl) : gl_G lay ov M' V pc (o0 :: o1 :: o2 :: o3 :: o4 :: o5 :: o6 :: o7 :: o8 :: o9 :: o10 :: o11 :: o12 :: o13 :: o14 :: o :: T) (.int x :: st) M := by
  obtain ⟨F, p, e, R, s, m, args, below, meth, c, nL⟩ := V
  obtain ⟨hx, hb, hml, hown, hts, hK, hI, hok, hlk, hr, rfl⟩ := C
  intro H locs ls hP hS hl
  exact lv_istore hx hb d (gl_L_has hl) (show 15 < nL by have := hl.2.2.1; simp at this; omega) rfl (fun ls' h' => k H locs ls' hP hS (gl_L_set (i := 15) hl rfl h' hc))
theorem gl_iinc_15 {o0 o1 o2 o3 o4 o5 o6 o7 o8 o9 o10 o11 o12 o13 o14 : Option Value} {T : List (Option Value)} {x v : Int32} {n : Int} (C : gl_C cc ws own rm ret lay V) (d : decode cc pc = .ok (.iinc 15 n, 3)) (hn : x + Int32.ofInt n = v) (k : gl_G lay ov M' V (pc + 3) (o0 :: o1 :: o2 :: o3 :: o4 :: o5 :: o6 :: o7 :: o8 :: o9 :: o10 :: o11 :: o12 :: o13 :: o14 :: some (.int (v)) :: T) st M) (hc : gl_pc (o0 :: o1 :: o2 :: o3 :: o4 :: o5 :: o6 :: o7 :: o8 :: o9 :: o10 :: o11 :: o12 :: o13 :: o14 :: some (.int (x)) :: T) 15 = true := by with_unfolding_all rfl) : gl_G lay ov M' V pc (o0 :: o1 :: o2 :: o3 :: o4 :: o5 :: o6 :: o7 :: o8 :: o9 :: o10 :: o11 :: o12 :: o13 :: o14 :: some (.int (x)) :: T) st M := by
  obtain ⟨F, p, e, R, s, m, args, below, meth, c, nL⟩ := V
  obtain ⟨hx, hb, hml, hown, hts, hK, hI, hok, hlk, hr, rfl⟩ := C
  intro H locs ls hP hS hl
  obtain ⟨kk, hkk⟩ := List.mem_iff_getElem?.mp (gl_al_mem (i := 15).mpr (show (o0 :: o1 :: o2 :: o3 :: o4 :: o5 :: o6 :: o7 :: o8 :: o9 :: o10 :: o11 :: o12 :: o13 :: o14 :: some (Value.int (x)) :: T)[15]? = some (some (.int (x))) from rfl))
  exact lv_iinc hx hb d (gl_L_has hl) hkk hn (show 15 < nL by have := hl.2.2.1; simp at this; omega) rfl (fun ls' h' => k H locs ls' hP hS (gl_L_set (i := 15) hl rfl h' hc))
theorem gl_iincN_15 {o0 o1 o2 o3 o4 o5 o6 o7 o8 o9 o10 o11 o12 o13 o14 : Option Value} {T : List (Option Value)} {a v : Nat} {n : Int} (hn : Int32.ofInt n = nI v) (C : gl_C cc ws own rm ret lay V) (d : decode cc pc = .ok (.iinc 15 n, 3)) (k : gl_G lay ov M' V (pc + 3) (o0 :: o1 :: o2 :: o3 :: o4 :: o5 :: o6 :: o7 :: o8 :: o9 :: o10 :: o11 :: o12 :: o13 :: o14 :: some (.int (nI (a + v))) :: T) st M) (hc : gl_pc (o0 :: o1 :: o2 :: o3 :: o4 :: o5 :: o6 :: o7 :: o8 :: o9 :: o10 :: o11 :: o12 :: o13 :: o14 :: some (.int (nI a)) :: T) 15 = true := by with_unfolding_all rfl) : gl_G lay ov M' V pc (o0 :: o1 :: o2 :: o3 :: o4 :: o5 :: o6 :: o7 :: o8 :: o9 :: o10 :: o11 :: o12 :: o13 :: o14 :: some (.int (nI a)) :: T) st M := gl_iinc_15 C d (by rw [hn]; exact nI_add a v) k hc
theorem gl_iload_16 {o0 o1 o2 o3 o4 o5 o6 o7 o8 o9 o10 o11 o12 o13 o14 o15 : Option Value} {T : List (Option Value)} {x : Int32} (C : gl_C cc ws own rm ret lay V) (d : decode cc pc = .ok (.iload 16, 2)) (k : gl_G lay ov M' V (pc + 2) (o0 :: o1 :: o2 :: o3 :: o4 :: o5 :: o6 :: o7 :: o8 :: o9 :: o10 :: o11 :: o12 :: o13 :: o14 :: o15 :: some (.int x) :: T) (.int x :: st) M) : gl_G lay ov M' V pc (o0 :: o1 :: o2 :: o3 :: o4 :: o5 :: o6 :: o7 :: o8 :: o9 :: o10 :: o11 :: o12 :: o13 :: o14 :: o15 :: some (.int x) :: T) st M := by
  obtain ⟨F, p, e, R, s, m, args, below, meth, c, nL⟩ := V
  obtain ⟨hx, hb, hml, hown, hts, hK, hI, hok, hlk, hr, rfl⟩ := C
  intro H locs ls hP hS hl
  exact lv_iload hx hb d (gl_L_at hl (i := 16) rfl) (k H locs ls hP hS hl)
theorem gl_istore_16 {o0 o1 o2 o3 o4 o5 o6 o7 o8 o9 o10 o11 o12 o13 o14 o15 : Option Value} {o : Option Value} {T : List (Option Value)} {x : Int32} (C : gl_C cc ws own rm ret lay V) (d : decode cc pc = .ok (.istore 16, 2)) (k : gl_G lay ov M' V (pc + 2) (o0 :: o1 :: o2 :: o3 :: o4 :: o5 :: o6 :: o7 :: o8 :: o9 :: o10 :: o11 :: o12 :: o13 :: o14 :: o15 :: some (.int x) :: T) st M) (hc : gl_pc (o0 :: o1 :: o2 :: o3 :: o4 :: o5 :: o6 :: o7 :: o8 :: o9 :: o10 :: o11 :: o12 :: o13 :: o14 :: o15 :: o :: T) 16 = true := by with_unfolding_all rfl) : gl_G lay ov M' V pc (o0 :: o1 :: o2 :: o3 :: o4 :: o5 :: o6 :: o7 :: o8 :: o9 :: o10 :: o11 :: o12 :: o13 :: o14 :: o15 :: o :: T) (.int x :: st) M := by
  obtain ⟨F, p, e, R, s, m, args, below, meth, c, nL⟩ := V
  obtain ⟨hx, hb, hml, hown, hts, hK, hI, hok, hlk, hr, rfl⟩ := C
  intro H locs ls hP hS hl
  exact lv_istore hx hb d (gl_L_has hl) (show 16 < nL by have := hl.2.2.1; simp at this; omega) rfl (fun ls' h' => k H locs ls' hP hS (gl_L_set (i := 16) hl rfl h' hc))
theorem gl_iinc_16 {o0 o1 o2 o3 o4 o5 o6 o7 o8 o9 o10 o11 o12 o13 o14 o15 : Option Value} {T : List (Option Value)} {x v : Int32} {n : Int} (C : gl_C cc ws own rm ret lay V) (d : decode cc pc = .ok (.iinc 16 n, 3)) (hn : x + Int32.ofInt n = v) (k : gl_G lay ov M' V (pc + 3) (o0 :: o1 :: o2 :: o3 :: o4 :: o5 :: o6 :: o7 :: o8 :: o9 :: o10 :: o11 :: o12 :: o13 :: o14 :: o15 :: some (.int (v)) :: T) st M) (hc : gl_pc (o0 :: o1 :: o2 :: o3 :: o4 :: o5 :: o6 :: o7 :: o8 :: o9 :: o10 :: o11 :: o12 :: o13 :: o14 :: o15 :: some (.int (x)) :: T) 16 = true := by with_unfolding_all rfl) : gl_G lay ov M' V pc (o0 :: o1 :: o2 :: o3 :: o4 :: o5 :: o6 :: o7 :: o8 :: o9 :: o10 :: o11 :: o12 :: o13 :: o14 :: o15 :: some (.int (x)) :: T) st M := by
  obtain ⟨F, p, e, R, s, m, args, below, meth, c, nL⟩ := V
  obtain ⟨hx, hb, hml, hown, hts, hK, hI, hok, hlk, hr, rfl⟩ := C
  intro H locs ls hP hS hl
  obtain ⟨kk, hkk⟩ := List.mem_iff_getElem?.mp (gl_al_mem (i := 16).mpr (show (o0 :: o1 :: o2 :: o3 :: o4 :: o5 :: o6 :: o7 :: o8 :: o9 :: o10 :: o11 :: o12 :: o13 :: o14 :: o15 :: some (Value.int (x)) :: T)[16]? = some (some (.int (x))) from rfl))
  exact lv_iinc hx hb d (gl_L_has hl) hkk hn (show 16 < nL by have := hl.2.2.1; simp at this; omega) rfl (fun ls' h' => k H locs ls' hP hS (gl_L_set (i := 16) hl rfl h' hc))
theorem gl_iincN_16 {o0 o1 o2 o3 o4 o5 o6 o7 o8 o9 o10 o11 o12 o13 o14 o15 : Option Value} {T : List (Option Value)} {a v : Nat} {n : Int} (hn : Int32.ofInt n = nI v) (C : gl_C cc ws own rm ret lay V) (d : decode cc pc = .ok (.iinc 16 n, 3)) (k : gl_G lay ov M' V (pc + 3) (o0 :: o1 :: o2 :: o3 :: o4 :: o5 :: o6 :: o7 :: o8 :: o9 :: o10 :: o11 :: o12 :: o13 :: o14 :: o15 :: some (.int (nI (a + v))) :: T) st M) (hc : gl_pc (o0 :: o1 :: o2 :: o3 :: o4 :: o5 :: o6 :: o7 :: o8 :: o9 :: o10 :: o11 :: o12 :: o13 :: o14 :: o15 :: some (.int (nI a)) :: T) 16 = true := by with_unfolding_all rfl) : gl_G lay ov M' V pc (o0 :: o1 :: o2 :: o3 :: o4 :: o5 :: o6 :: o7 :: o8 :: o9 :: o10 :: o11 :: o12 :: o13 :: o14 :: o15 :: some (.int (nI a)) :: T) st M := gl_iinc_16 C d (by rw [hn]; exact nI_add a v) k hc
theorem gl_iload_17 {o0 o1 o2 o3 o4 o5 o6 o7 o8 o9 o10 o11 o12 o13 o14 o15 o16 : Option Value} {T : List (Option Value)} {x : Int32} (C : gl_C cc ws own rm ret lay V) (d : decode cc pc = .ok (.iload 17, 2)) (k : gl_G lay ov M' V (pc + 2) (o0 :: o1 :: o2 :: o3 :: o4 :: o5 :: o6 :: o7 :: o8 :: o9 :: o10 :: o11 :: o12 :: o13 :: o14 :: o15 :: o16 :: some (.int x) :: T) (.int x :: st) M) : gl_G lay ov M' V pc (o0 :: o1 :: o2 :: o3 :: o4 :: o5 :: o6 :: o7 :: o8 :: o9 :: o10 :: o11 :: o12 :: o13 :: o14 :: o15 :: o16 :: some (.int x) :: T) st M := by
  obtain ⟨F, p, e, R, s, m, args, below, meth, c, nL⟩ := V
  obtain ⟨hx, hb, hml, hown, hts, hK, hI, hok, hlk, hr, rfl⟩ := C
  intro H locs ls hP hS hl
  exact lv_iload hx hb d (gl_L_at hl (i := 17) rfl) (k H locs ls hP hS hl)
theorem gl_istore_17 {o0 o1 o2 o3 o4 o5 o6 o7 o8 o9 o10 o11 o12 o13 o14 o15 o16 : Option Value} {o : Option Value} {T : List (Option Value)} {x : Int32} (C : gl_C cc ws own rm ret lay V) (d : decode cc pc = .ok (.istore 17, 2)) (k : gl_G lay ov M' V (pc + 2) (o0 :: o1 :: o2 :: o3 :: o4 :: o5 :: o6 :: o7 :: o8 :: o9 :: o10 :: o11 :: o12 :: o13 :: o14 :: o15 :: o16 :: some (.int x) :: T) st M) (hc : gl_pc (o0 :: o1 :: o2 :: o3 :: o4 :: o5 :: o6 :: o7 :: o8 :: o9 :: o10 :: o11 :: o12 :: o13 :: o14 :: o15 :: o16 :: o :: T) 17 = true := by with_unfolding_all rfl) : gl_G lay ov M' V pc (o0 :: o1 :: o2 :: o3 :: o4 :: o5 :: o6 :: o7 :: o8 :: o9 :: o10 :: o11 :: o12 :: o13 :: o14 :: o15 :: o16 :: o :: T) (.int x :: st) M := by
  obtain ⟨F, p, e, R, s, m, args, below, meth, c, nL⟩ := V
  obtain ⟨hx, hb, hml, hown, hts, hK, hI, hok, hlk, hr, rfl⟩ := C
  intro H locs ls hP hS hl
  exact lv_istore hx hb d (gl_L_has hl) (show 17 < nL by have := hl.2.2.1; simp at this; omega) rfl (fun ls' h' => k H locs ls' hP hS (gl_L_set (i := 17) hl rfl h' hc))
theorem gl_iinc_17 {o0 o1 o2 o3 o4 o5 o6 o7 o8 o9 o10 o11 o12 o13 o14 o15 o16 : Option Value} {T : List (Option Value)} {x v : Int32} {n : Int} (C : gl_C cc ws own rm ret lay V) (d : decode cc pc = .ok (.iinc 17 n, 3)) (hn : x + Int32.ofInt n = v) (k : gl_G lay ov M' V (pc + 3) (o0 :: o1 :: o2 :: o3 :: o4 :: o5 :: o6 :: o7 :: o8 :: o9 :: o10 :: o11 :: o12 :: o13 :: o14 :: o15 :: o16 :: some (.int (v)) :: T) st M) (hc : gl_pc (o0 :: o1 :: o2 :: o3 :: o4 :: o5 :: o6 :: o7 :: o8 :: o9 :: o10 :: o11 :: o12 :: o13 :: o14 :: o15 :: o16 :: some (.int (x)) :: T) 17 = true := by with_unfolding_all rfl) : gl_G lay ov M' V pc (o0 :: o1 :: o2 :: o3 :: o4 :: o5 :: o6 :: o7 :: o8 :: o9 :: o10 :: o11 :: o12 :: o13 :: o14 :: o15 :: o16 :: some (.int (x)) :: T) st M := by
  obtain ⟨F, p, e, R, s, m, args, below, meth, c, nL⟩ := V
  obtain ⟨hx, hb, hml, hown, hts, hK, hI, hok, hlk, hr, rfl⟩ := C
  intro H locs ls hP hS hl
  obtain ⟨kk, hkk⟩ := List.mem_iff_getElem?.mp (gl_al_mem (i := 17).mpr (show (o0 :: o1 :: o2 :: o3 :: o4 :: o5 :: o6 :: o7 :: o8 :: o9 :: o10 :: o11 :: o12 :: o13 :: o14 :: o15 :: o16 :: some (Value.int (x)) :: T)[17]? = some (some (.int (x))) from rfl))
  exact lv_iinc hx hb d (gl_L_has hl) hkk hn (show 17 < nL by have := hl.2.2.1; simp at this; omega) rfl (fun ls' h' => k H locs ls' hP hS (gl_L_set (i := 17) hl rfl h' hc))
theorem gl_iincN_17 {o0 o1 o2 o3 o4 o5 o6 o7 o8 o9 o10 o11 o12 o13 o14 o15 o16 : Option Value} {T : List (Option Value)} {a v : Nat} {n : Int} (hn : Int32.ofInt n = nI v) (C : gl_C cc ws own rm ret lay V) (d : decode cc pc = .ok (.iinc 17 n, 3)) (k : gl_G lay ov M' V (pc + 3) (o0 :: o1 :: o2 :: o3 :: o4 :: o5 :: o6 :: o7 :: o8 :: o9 :: o10 :: o11 :: o12 :: o13 :: o14 :: o15 :: o16 :: some (.int (nI (a + v))) :: T) st M) (hc : gl_pc (o0 :: o1 :: o2 :: o3 :: o4 :: o5 :: o6 :: o7 :: o8 :: o9 :: o10 :: o11 :: o12 :: o13 :: o14 :: o15 :: o16 :: some (.int (nI a)) :: T) 17 = true := by with_unfolding_all rfl) : gl_G lay ov M' V pc (o0 :: o1 :: o2 :: o3 :: o4 :: o5 :: o6 :: o7 :: o8 :: o9 :: o10 :: o11 :: o12 :: o13 :: o14 :: o15 :: o16 :: some (.int (nI a)) :: T) st M := gl_iinc_17 C d (by rw [hn]; exact nI_add a v) k hc
theorem gl_iload_18 {o0 o1 o2 o3 o4 o5 o6 o7 o8 o9 o10 o11 o12 o13 o14 o15 o16 o17 : Option Value} {T : List (Option Value)} {x : Int32} (C : gl_C cc ws own rm ret lay V) (d : decode cc pc = .ok (.iload 18, 2)) (k : gl_G lay ov M' V (pc + 2) (o0 :: o1 :: o2 :: o3 :: o4 :: o5 :: o6 :: o7 :: o8 :: o9 :: o10 :: o11 :: o12 :: o13 :: o14 :: o15 :: o16 :: o17 :: some (.int x) :: T) (.int x :: st) M) : gl_G lay ov M' V pc (o0 :: o1 :: o2 :: o3 :: o4 :: o5 :: o6 :: o7 :: o8 :: o9 :: o10 :: o11 :: o12 :: o13 :: o14 :: o15 :: o16 :: o17 :: some (.int x) :: T) st M := by
  obtain ⟨F, p, e, R, s, m, args, below, meth, c, nL⟩ := V
  obtain ⟨hx, hb, hml, hown, hts, hK, hI, hok, hlk, hr, rfl⟩ := C
  intro H locs ls hP hS hl
  exact lv_iload hx hb d (gl_L_at hl (i := 18) rfl) (k H locs ls hP hS hl)
theorem gl_istore_18 {o0 o1 o2 o3 o4 o5 o6 o7 o8 o9 o10 o11 o12 o13 o14 o15 o16 o17 : Option Value} {o : Option Value} {T : List (Option Value)} {x : Int32} (C : gl_C cc ws own rm ret lay V) (d : decode cc pc = .ok (.istore 18, 2)) (k : gl_G lay ov M' V (pc + 2) (o0 :: o1 :: o2 :: o3 :: o4 :: o5 :: o6 :: o7 :: o8 :: o9 :: o10 :: o11 :: o12 :: o13 :: o14 :: o15 :: o16 :: o17 :: some (.int x) :: T) st M) (hc : gl_pc (o0 :: o1 :: o2 :: o3 :: o4 :: o5 :: o6 :: o7 :: o8 :: o9 :: o10 :: o11 :: o12 :: o13 :: o14 :: o15 :: o16 :: o17 :: o :: T) 18 = true := by with_unfolding_all rfl) : gl_G lay ov M' V pc (o0 :: o1 :: o2 :: o3 :: o4 :: o5 :: o6 :: o7 :: o8 :: o9 :: o10 :: o11 :: o12 :: o13 :: o14 :: o15 :: o16 :: o17 :: o :: T) (.int x :: st) M := by
  obtain ⟨F, p, e, R, s, m, args, below, meth, c, nL⟩ := V
  obtain ⟨hx, hb, hml, hown, hts, hK, hI, hok, hlk, hr, rfl⟩ := C
  intro H locs ls hP hS hl
  exact lv_istore hx hb d (gl_L_has hl) (show 18 < nL by have := hl.2.2.1; simp at this; omega) rfl (fun ls' h' => k H locs ls' hP hS (gl_L_set (i := 18) hl rfl h' hc))
theorem gl_iinc_18 {o0 o1 o2 o3 o4 o5 o6 o7 o8 o9 o10 o11 o12 o13 o14 o15 o16 o17 : Option Value} {T : List (Option Value)} {x v : Int32} {n : Int} (C : gl_C cc ws own rm ret lay V) (d : decode cc pc = .ok (.iinc 18 n, 3)) (hn : x + Int32.ofInt n = v) (k : gl_G lay ov M' V (pc + 3) (o0 :: o1 :: o2 :: o3 :: o4 :: o5 :: o6 :: o7 :: o8 :: o9 :: o10 :: o11 :: o12 :: o13 :: o14 :: o15 :: o16 :: o17 :: some (.int (v)) :: T) st M) (hc : gl_pc (o0 :: o1 :: o2 :: o3 :: o4 :: o5 :: o6 :: o7 :: o8 :: o9 :: o10 :: o11 :: o12 :: o13 :: o14 :: o15 :: o16 :: o17 :: some (.int (x)) :: T) 18 = true := by with_unfolding_all rfl) : gl_G lay ov M' V pc (o0 :: o1 :: o2 :: o3 :: o4 :: o5 :: o6 :: o7 :: o8 :: o9 :: o10 :: o11 :: o12 :: o13 :: o14 :: o15 :: o16 :: o17 :: some (.int (x)) :: T) st M := by
  obtain ⟨F, p, e, R, s, m, args, below, meth, c, nL⟩ := V
  obtain ⟨hx, hb, hml, hown, hts, hK, hI, hok, hlk, hr, rfl⟩ := C
  intro H locs ls hP hS hl
  obtain ⟨kk, hkk⟩ := List.mem_iff_getElem?.mp (gl_al_mem (i := 18).mpr (show (o0 :: o1 :: o2 :: o3 :: o4 :: o5 :: o6 :: o7 :: o8 :: o9 :: o10 :: o11 :: o12 :: o13 :: o14 :: o15 :: o16 :: o17 :: some (Value.int (x)) :: T)[18]? = some (some (.int (x))) from rfl))
  exact lv_iinc hx hb d (gl_L_has hl) hkk hn (show 18 < nL by have := hl.2.2.1; simp at this; omega) rfl (fun ls' h' => k H locs ls' hP hS (gl_L_set (i := 18) hl rfl h' hc))
theorem gl_iincN_18 {o0 o1 o2 o3 o4 o5 o6 o7 o8 o9 o10 o11 o12 o13 o14 o15 o16 o17 : Option Value} {T : List (Option Value)} {a v : Nat} {n : Int} (hn : Int32.ofInt n = nI v) (C : gl_C cc ws own rm ret lay V) (d : decode cc pc = .ok (.iinc 18 n, 3)) (k : gl_G lay ov M' V (pc + 3) (o0 :: o1 :: o2 :: o3 :: o4 :: o5 :: o6 :: o7 :: o8 :: o9 :: o10 :: o11 :: o12 :: o13 :: o14 :: o15 :: o16 :: o17 :: some (.int (nI (a + v))) :: T) st M) (hc : gl_pc (o0 :: o1 :: o2 :: o3 :: o4 :: o5 :: o6 :: o7 :: o8 :: o9 :: o10 :: o11 :: o12 :: o13 :: o14 :: o15 :: o16 :: o17 :: some (.int (nI a)) :: T) 18 = true := by with_unfolding_all rfl) : gl_G lay ov M' V pc (o0 :: o1 :: o2 :: o3 :: o4 :: o5 :: o6 :: o7 :: o8 :: o9 :: o10 :: o11 :: o12 :: o13 :: o14 :: o15 :: o16 :: o17 :: some (.int (nI a)) :: T) st M := gl_iinc_18 C d (by rw [hn]; exact nI_add a v) k hc
theorem gl_iload_19 {o0 o1 o2 o3 o4 o5 o6 o7 o8 o9 o10 o11 o12 o13 o14 o15 o16 o17 o18 : Option Value} {T : List (Option Value)} {x : Int32} (C : gl_C cc ws own rm ret lay V) (d : decode cc pc = .ok (.iload 19, 2)) (k : gl_G lay ov M' V (pc + 2) (o0 :: o1 :: o2 :: o3 :: o4 :: o5 :: o6 :: o7 :: o8 :: o9 :: o10 :: o11 :: o12 :: o13 :: o14 :: o15 :: o16 :: o17 :: o18 :: some (.int x) :: T) (.int x :: st) M) : gl_G lay ov M' V pc (o0 :: o1 :: o2 :: o3 :: o4 :: o5 :: o6 :: o7 :: o8 :: o9 :: o10 :: o11 :: o12 :: o13 :: o14 :: o15 :: o16 :: o17 :: o18 :: some (.int x) :: T) st M := by
  obtain ⟨F, p, e, R, s, m, args, below, meth, c, nL⟩ := V
  obtain ⟨hx, hb, hml, hown, hts, hK, hI, hok, hlk, hr, rfl⟩ := C
  intro H locs ls hP hS hl
  exact lv_iload hx hb d (gl_L_at hl (i := 19) rfl) (k H locs ls hP hS hl)
theorem gl_istore_19 {o0 o1 o2 o3 o4 o5 o6 o7 o8 o9 o10 o11 o12 o13 o14 o15 o16 o17 o18 : Option Value} {o : Option Value} {T : List (Option Value)} {x : Int32} (C : gl_C cc ws own rm ret lay V) (d : decode cc pc = .ok (.istore 19, 2)) (k : gl_G lay ov M' V (pc + 2) (o0 :: o1 :: o2 :: o3 :: o4 :: o5 :: o6 :: o7 :: o8 :: o9 :: o10 :: o11 :: o12 :: o13 :: o14 :: o15 :: o16 :: o17 :: o18 :: some (.int x) :: T) st M) (hc : gl_pc (o0 :: o1 :: o2 :: o3 :: o4 :: o5 :: o6 :: o7 :: o8 :: o9 :: o10 :: o11 :: o12 :: o13 :: o14 :: o15 :: o16 :: o17 :: o18 :: o :: T) 19 = true := by with_unfolding_all rfl) : gl_G lay ov M' V pc (o0 :: o1 :: o2 :: o3 :: o4 :: o5 :: o6 :: o7 :: o8 :: o9 :: o10 :: o11 :: o12 :: o13 :: o14 :: o15 :: o16 :: o17 :: o18 :: o :: T) (.int x :: st) M := by
  obtain ⟨F, p, e, R, s, m, args, below, meth, c, nL⟩ := V
  obtain ⟨hx, hb, hml, hown, hts, hK, hI, hok, hlk, hr, rfl⟩ := C
  intro H locs ls hP hS hl
  exact lv_istore hx hb d (gl_L_has hl) (show 19 < nL by have := hl.2.2.1; simp at this; omega) rfl (fun ls' h' => k H locs ls' hP hS (gl_L_set (i := 19) hl rfl h' hc))
theorem gl_iinc_19 {o0 o1 o2 o3 o4 o5 o6 o7 o8 o9 o10 o11 o12 o13 o14 o15 o16 o17 o18 : Option Value} {T : List (Option Value)} {x v : Int32} {n : Int} (C : gl_C cc ws own rm ret lay V) (d : decode cc pc = .ok (.iinc 19 n, 3)) (hn : x + Int32.ofInt n = v) (k : gl_G lay ov M' V (pc + 3) (o0 :: o1 :: o2 :: o3 :: o4 :: o5 :: o6 :: o7 :: o8 :: o9 :: o10 :: o11 :: o12 :: o13 :: o14 :: o15 :: o16 :: o17 :: o18 :: some (.int (v)) :: T) st M) (hc : gl_pc (o0 :: o1 :: o2 :: o3 :: o4 :: o5 :: o6 :: o7 :: o8 :: o9 :: o10 :: o11 :: o12 :: o13 :: o14 :: o15 :: o16 :: o17 :: o18 :: some (.int (x)) :: T) 19 = true := by with_unfolding_all rfl) : gl_G lay ov M' V pc (o0 :: o1 :: o2 :: o3 :: o4 :: o5 :: o6 :: o7 :: o8 :: o9 :: o10 :: o11 :: o12 :: o13 :: o14 :: o15 :: o16 :: o17 :: o18 :: some (.int (x)) :: T) st M := by
  obtain ⟨F, p, e, R, s, m, args, below, meth, c, nL⟩ := V
  obtain ⟨hx, hb, hml, hown, hts, hK, hI, hok, hlk, hr, rfl⟩ := C
  intro H locs ls hP hS hl
  obtain ⟨kk, hkk⟩ := List.mem_iff_getElem?.mp (gl_al_mem (i := 19).mpr (show (o0 :: o1 :: o2 :: o3 :: o4 :: o5 :: o6 :: o7 :: o8 :: o9 :: o10 :: o11 :: o12 :: o13 :: o14 :: o15 :: o16 :: o17 :: o18 :: some (Value.int (x)) :: T)[19]? = some (some (.int (x))) from rfl))
  exact lv_iinc hx hb d (gl_L_has hl) hkk hn (show 19 < nL by have := hl.2.2.1; simp at this; omega) rfl (fun ls' h' => k H locs ls' hP hS (gl_L_set (i := 19) hl rfl h' hc))
theorem gl_iincN_19 {o0 o1 o2 o3 o4 o5 o6 o7 o8 o9 o10 o11 o12 o13 o14 o15 o16 o17 o18 : Option Value} {T : List (Option Value)} {a v : Nat} {n : Int} (hn : Int32.ofInt n = nI v) (C : gl_C cc ws own rm ret lay V) (d : decode cc pc = .ok (.iinc 19 n, 3)) (k : gl_G lay ov M' V (pc + 3) (o0 :: o1 :: o2 :: o3 :: o4 :: o5 :: o6 :: o7 :: o8 :: o9 :: o10 :: o11 :: o12 :: o13 :: o14 :: o15 :: o16 :: o17 :: o18 :: some (.int (nI (a + v))) :: T) st M) (hc : gl_pc (o0 :: o1 :: o2 :: o3 :: o4 :: o5 :: o6 :: o7 :: o8 :: o9 :: o10 :: o11 :: o12 :: o13 :: o14 :: o15 :: o16 :: o17 :: o18 :: some (.int (nI a)) :: T) 19 = true := by with_unfolding_all rfl) : gl_G lay ov M' V pc (o0 :: o1 :: o2 :: o3 :: o4 :: o5 :: o6 :: o7 :: o8 :: o9 :: o10 :: o11 :: o12 :: o13 :: o14 :: o15 :: o16 :: o17 :: o18 :: some (.int (nI a)) :: T) st M := gl_iinc_19 C d (by rw [hn]; exact nI_add a v) k hc
/-- a field that an instruction of a method reads or writes: pool index, class, slot -/
def gl_fl (ws : List Cond) (own : String) (index ci k : Nat) : Prop := ∃ (Cl : String) (T : u_T) (N : Nat) (ref : String), vwCl[ci]? = some (Cl, T, N) ∧ k < N ∧ (∀ w ∈ u_ws Cl T N, w ∈ ws) ∧ Cond.fieldLink own index ref (T k).2.1 (T k).2.2.1 ∈ ws ∧ ref = (T k).1
def gl_fp (ws : List Cond) (own : String) (index ci k : Nat) : Prop := ∃ (Cl : String) (T : u_T) (N : Nat) (ref : String) (ty0 : Nat → FieldType), vwCl[ci]? = some (Cl, T, N) ∧ k < N ∧ (∀ w ∈ u_ws Cl T N, w ∈ ws) ∧ Cond.fieldLink own index ref (T k).2.1 (T k).2.2.1 ∈ ws ∧ ref = (T k).1 ∧ (∀ k, k < N → parseFieldDescriptor (T k).2.2.1 = some (ty0 k)) ∧ (∀ a, a < N → ∀ b, b < N → a ≠ b → (T a).2.1 ≠ (T b).2.1) ∧ (T k).2.2.2 = false ∧ parseFieldDescriptor (T k).2.2.1 = some .int
theorem gl_get {index j ci k : Nat} {fs : List (Nat ⊕ Nat)} {x : Nat ⊕ Nat} (C : gl_C cc ws own rm ret lay V) (d : decode cc pc = .ok (.getfield index, 3)) (f : gl_fl ws own index ci k) (hj : lay[j]? = some (.inr (.inl (ci, fs)))) (hk : fs[k]? = some x)
    (h : gl_G lay ov M' V (pc + 3) L (gl_v V.1 M x :: st) M) : gl_G lay ov M' V pc L (.ref (gl_r V.1 j) :: st) M := by
  obtain ⟨F, p, e, R, s, m, args, below, meth, c, nL⟩ := V
  obtain ⟨hx, hb, hml, hown, hts, hK, hI, hok, hlk, hr, rfl⟩ := C
  intro H locs ls hP hS hl
  obtain ⟨Cl, T, N, ref, f1, f2, f3, f4, f5⟩ := f
  subst f5
  exact va_get (D := F.2.1) (ci := ci) (v := gl_v F M x) (C := Cl) (T := T) (N := N) hx hb hts f3 hown hK hP j (gl_w_at hj) f1 k f2 (hts _ f4) (fun _ h9 => h9) (by rw [List.getElem?_map, hk]; rfl) d (h H locs ls hP hS hl)
theorem gl_getI {index j ci k i : Nat} {fs : List (Nat ⊕ Nat)} (C : gl_C cc ws own rm ret lay V) (d : decode cc pc = .ok (.getfield index, 3)) (f : gl_fl ws own index ci k) (hj : lay[j]? = some (.inr (.inl (ci, fs)))) (hk : fs[k]? = some (.inl i))
    (h : gl_G lay ov M' V (pc + 3) L (.int (M i) :: st) M) : gl_G lay ov M' V pc L (.ref (gl_r V.1 j) :: st) M := gl_get C d f hj hk h
theorem gl_getR {index j ci k i : Nat} {fs : List (Nat ⊕ Nat)} (C : gl_C cc ws own rm ret lay V) (d : decode cc pc = .ok (.getfield index, 3)) (f : gl_fl ws own index ci k) (hj : lay[j]? = some (.inr (.inl (ci, fs)))) (hk : fs[k]? = some (.inr i))
    (h : gl_G lay ov M' V (pc + 3) L (.ref (gl_r V.1 i) :: st) M) : gl_G lay ov M' V pc L (.ref (gl_r V.1 j) :: st) M := gl_get C d f hj hk h
theorem gl_put {index j ci k i : Nat} {fs : List (Nat ⊕ Nat)} {x : Int32} (C : gl_C cc ws own rm ret lay V) (d : decode cc pc = .ok (.putfield index, 3)) (f : gl_fp ws own index ci k) (hj : lay[j]? = some (.inr (.inl (ci, fs)))) (hk : fs[k]? = some (.inl i))
    (h : gl_G lay ov M' V (pc + 3) L st (upd M i x)) : gl_G lay ov M' V pc L (.int x :: .ref (gl_r V.1 j) :: st) M := by
  obtain ⟨F, p, e, R, s, m, args, below, meth, c, nL⟩ := V
  obtain ⟨hx, hb, hml, hown, hts, hK, hI, hok, hlk, hr, rfl⟩ := C
  intro H locs ls hP hS hl
  obtain ⟨Cl, T, N, ref, ty0, f1, f2, f3, f4, f5, f6, f7, f8, f9⟩ := f
  subst f5
  exact va_put (D := F.2.1) (ci := ci) (v := .int x) (ty := .int) (C := Cl) (T := T) (N := N) hx hb hts f3 ty0 f6 f7 hown hK hP (gl_w_D hI) hS j (gl_w_at hj) f1 k f2 (hts _ f4) (fun _ h9 => h9) f8 f9 rfl rfl (by rw [List.length_map]; exact (List.getElem?_eq_some_iff.mp hk).1) d (fun H1 locs1 hP1 _ hS1 => h H1 locs1 ls (gl_set_fld hok hj hk x ▸ hP1) hS1 hl)
theorem gl_iald {j n : Nat} {f : Nat → Nat} {i : Int32} (k : Nat) (C : gl_C cc ws own rm ret lay V) (d : decode cc pc = .ok (.iaload, 1)) (hj : lay[j]? = some (.inl (n, f))) (hi : i = nI k) (hk : k < n)
    (h : gl_G lay ov M' V (pc + 1) L (.int (M (f k)) :: st) M) : gl_G lay ov M' V pc L (.int i :: .ref (gl_r V.1 j) :: st) M := by
  obtain ⟨F, p, e, R, s, m, args, below, meth, c, nL⟩ := V
  obtain ⟨hx, hb, hml, hown, hts, hK, hI, hok, hlk, hr, rfl⟩ := C
  intro H locs ls hP hS hl
  have hn : n < 2 ^ 31 := hok.2 j _ hj
  subst hi
  have h1 := nI_clamp (n := k) (by omega)
  refine va_iald (D := F.2.1) hx hb hK hP j 0 (gl_w_at hj) rfl (vp_in_nI hk hn) d ?_
  rw [h1, if_pos hk]
  exact h H locs ls hP hS hl
theorem gl_iast {j n : Nat} {f : Nat → Nat} {i x : Int32} (k : Nat) (C : gl_C cc ws own rm ret lay V) (d : decode cc pc = .ok (.iastore, 1)) (hj : lay[j]? = some (.inl (n, f))) (hi : i = nI k) (hk : k < n)
    (h : gl_G lay ov M' V (pc + 1) L st (upd M (f k) x)) : gl_G lay ov M' V pc L (.int x :: .int i :: .ref (gl_r V.1 j) :: st) M := by
  obtain ⟨F, p, e, R, s, m, args, below, meth, c, nL⟩ := V
  obtain ⟨hx, hb, hml, hown, hts, hK, hI, hok, hlk, hr, rfl⟩ := C
  intro H locs ls hP hS hl
  have hn : n < 2 ^ 31 := hok.2 j _ hj
  subst hi
  have h1 := nI_clamp (n := k) (by omega)
  refine va_iast (D := F.2.1) hx hb hK hP (gl_w_D hI) hS j 0 (gl_w_at hj) rfl (vp_in_nI hk hn) d (fun H1 locs1 hP1 _ hS1 => ?_)
  rw [h1] at hP1
  exact h H1 locs1 ls (gl_set_arr hok hj hk x ▸ hP1) hS1 hl
theorem gl_aald {j n : Nat} {g : Nat → Nat} {i : Int32} (k : Nat) (C : gl_C cc ws own rm ret lay V) (d : decode cc pc = .ok (.aaload, 1)) (hj : lay[j]? = some (.inr (.inr (.inl (n, g))))) (hi : i = nI k) (hk : k < n)
    (h : gl_G lay ov M' V (pc + 1) L (.ref (gl_r V.1 (g k)) :: st) M) : gl_G lay ov M' V pc L (.int i :: .ref (gl_r V.1 j) :: st) M := by
  obtain ⟨F, p, e, R, s, m, args, below, meth, c, nL⟩ := V
  obtain ⟨hx, hb, hml, hown, hts, hK, hI, hok, hlk, hr, rfl⟩ := C
  intro H locs ls hP hS hl
  have hn : n < 2 ^ 31 := hok.2 j _ hj
  subst hi
  have h1 := nI_clamp (n := k) (by omega)
  refine va_aldq (D := F.2.1) hx hb hK hP j 1 (gl_w_at hj) rfl (vp_in_nI hk hn) d ?_
  rw [h1, if_pos hk]
  exact h H locs ls hP hS hl
theorem gl_iret {v w : Int32} (C : gl_C cc ws own rm (some .int) lay V) (d : decode cc pc = .ok (.ireturn, 1)) (hv : v = w) (hM : M = M') : gl_G lay (some (.int w)) M' V pc L [.int v] M := by
  obtain ⟨F, p, e, R, s, m, args, below, meth, c, nL⟩ := V
  obtain ⟨hx, hb, hml, hown, hts, hK, hI, hok, hlk, hr, rfl⟩ := C
  subst hv
  subst hM
  intro H locs ls hP hS hl
  exact W.iret hx hb hr (fun t ht hW => ⟨rfl, by rw [ht]; exact hP, hS.F ht⟩) hS.2.2 d hlk
/-- a boolean's end: 0 or 1 -/
theorem gl_zret {v w : Int32} (C : gl_C cc ws own rm (some .boolean) lay V) (d : decode cc pc = .ok (.ireturn, 1)) (hn : narrow .boolean (.int v) = .int v) (hv : v = w) (hM : M = M') : gl_G lay (some (.int w)) M' V pc L [.int v] M := by
  obtain ⟨F, p, e, R, s, m, args, below, meth, c, nL⟩ := V
  obtain ⟨hx, hb, hml, hown, hts, hK, hI, hok, hlk, hr, rfl⟩ := C
  subst hv
  subst hM
  intro H locs ls hP hS hl
  exact W.zret hx hb hr hn (fun t ht hW => ⟨rfl, by rw [ht]; exact hP, hS.F ht⟩) hS.2.2 d hlk
theorem gl_vret (C : gl_C cc ws own rm none lay V) (d : decode cc pc = .ok (.return_, 1)) (hM : M = M') : gl_G lay none M' V pc L [] M := by
  obtain ⟨F, p, e, R, s, m, args, below, meth, c, nL⟩ := V
  obtain ⟨hx, hb, hml, hown, hts, hK, hI, hok, hlk, hr, rfl⟩ := C
  subst hM
  intro H locs ls hP hS hl
  exact W.vret hx hb hr (fun t ht hW => ⟨rfl, by rw [ht]; exact hP, hS.F ht⟩) hS.2.2 d hlk
/-! calls -/
theorem gl_blind {F : gl_F} {av : List Value} : FrameBlind (gl_Pc F lay av M) := fun a U g mk q => ⟨q.1, q.2.1, va_K.moved (u := U) (U := U.calling g mk a) (Vm.Alike.refl U.vm) q.2.2.1, q.2.2.2⟩
theorem gl_goon {F : gl_F} {p : Program} {e : Env} {R : Room} {s : State} {m : MethodId} {args : Array Value} {below : List Frame} {meth : Method} {c : Code} {nL : Nat} {H : Heap} {locs : List Loc} {ls : Array Slot} {ov1 : Option Value} {a : Array Value} {st0 : List Value}
    (hr : va_Run p F.1 e R s m args below meth c H locs 0 0 0 0 (F0 m pc ls st0) rest (gl_Q F lay ov1 M1 a) (gl_A F lay)) (hS : va_S (gl_A F lay) s.heap H locs) (hl : gl_L nL ls L)
    (k : gl_G lay ov M' (F, p, e, R, s, m, args, below, meth, c, nL) (pc + 3) L (ov1.toList ++ rest) M1) : W p F.1 e R s m args below meth c H locs 0 0 (MQ below (gl_Q F lay ov M') args s 0 0 (gl_A F lay)) (F0 m pc ls st0) := by
  intro T hT X
  obtain ⟨v, st₀, t, T', L2, h0, X', hL, e1, e2, ⟨hv, hp, hz, hk⟩, st⟩ := hr T hT X
  cases hv
  rw [h0] at hz hk
  obtain ⟨t2, a1, b1⟩ := k T'.heap (locs ++ L2) ls (by rw [e1]; exact hp) ⟨Nat.le_trans hS.1 (by rw [e1]; exact hz), fun q h1 h2 => by rw [e1, hk q (Nat.lt_of_lt_of_le h1 hS.1) h2]; exact hS.2.1 q h1 h2, fun q hq => by
      rcases List.mem_append.mp hq with h | h
      · exact hS.2.2 q h
      · exact hL q h⟩ hl T' rfl X'
  exact ⟨t2, st t2 a1, b1⟩
def gl_hd (y : MethodName) (Cl : String) (n : Nat) : Prop := y.cls = Cl ∧ y.cls ≠ "java/lang/invoke/MethodHandle" ∧ y.cls ≠ "java/lang/invoke/VarHandle" ∧ (parseMethodDescriptor y.desc).map (fun d => d.parameters.length) = some n
theorem gl_callV {index j ci n maxL N : Nat} {T : u_T} {fs : List (Nat ⊕ Nat)} {Cl : String} {y : MethodName} {wsc wsc' : List Cond} {bytes : ByteArray} {retc : Option FieldType} {rmc : Room} {As : List Value} {ov1 : Option Value}
    (C : gl_C cc ws own rm ret lay V) (d : decode cc pc = .ok (.invokevirtual index, 3)) (g : GoodIn ws (wsV own index Cl y wsc)) (hw : wsc = Cond.code y bytes maxL retc :: wsc') (hd : gl_hd y Cl n)
    (hrm : rmc.cells = 0 ∧ rmc.slots = 0 ∧ rmc.frames + 1 ≤ rm.frames ∧ 8 + (maxL + 11) + rmc.locals ≤ rm.locals) (hn : As.length = n) (hrest : (rest.map fun v => v.category).sum ≤ 8) (hst : st = As.reverse ++ .ref (gl_r V.1 j) :: rest)
    (hj : lay[j]? = some (.inr (.inl (ci, fs)))) (hci : vwCl[ci]? = some (Cl, T, N)) (ct : gl_Ct V.1 lay y wsc rmc (.ref (gl_r V.1 j) :: As) M ov1 M1)
    (k : gl_G lay ov M' V (pc + 3) L (ov1.toList ++ rest) M1) : gl_G lay ov M' V pc L st M := by
  obtain ⟨F, p, e, R, s, m, args, below, meth, c, nL⟩ := V
  obtain ⟨hx, hb, hml, hown, hts, hK, hI, hok, hlk, hr, rfl⟩ := C
  intro H locs ls hP hS hl
  subst hst
  refine gl_goon (va_runV (As := As) (rest := rest) ⟨hx, hb, hml, hown, hts⟩ ct (cwV n hts g hw hrm.1 hrm.2.1 hd hrm.2.2) ⟨gl_blind, va_recv hK hP hci (gl_w_at hj), fun U hU hW => ⟨rfl, by rw [hU]; exact hP, va_K.moved hW.alike hK, hI⟩⟩ rfl hn hl.1 rfl (lv_room hrest) d ⟨Nat.zero_le _, Nat.zero_le _⟩) hS hl k
theorem gl_callS {index n maxL : Nat} {y : MethodName} {wsc wsc' : List Cond} {bytes : ByteArray} {retc : Option FieldType} {rmc : Room} {As : List Value} {ov1 : Option Value}
    (C : gl_C cc ws own rm ret lay V) (d : decode cc pc = .ok (.invokestatic index, 3)) (g : GoodIn ws (va_wsS own index y wsc)) (hw : wsc = Cond.code y bytes maxL retc :: wsc') (hd : gl_hd y y.cls n)
    (hrm : rmc.cells = 0 ∧ rmc.slots = 0 ∧ rmc.frames + 1 ≤ rm.frames ∧ 8 + (maxL + 11) + rmc.locals ≤ rm.locals) (hn : As.length = n) (hrest : (rest.map fun v => v.category).sum ≤ 8) (hst : st = As.reverse ++ rest)
    (ct : gl_Ct V.1 lay y wsc rmc As M ov1 M1)
    (k : gl_G lay ov M' V (pc + 3) L (ov1.toList ++ rest) M1) : gl_G lay ov M' V pc L st M := by
  obtain ⟨F, p, e, R, s, m, args, below, meth, c, nL⟩ := V
  obtain ⟨hx, hb, hml, hown, hts, hK, hI, hok, hlk, hr, rfl⟩ := C
  intro H locs ls hP hS hl
  subst hst
  refine gl_goon (va_runS (As := As) (rest := rest) ⟨hx, hb, hml, hown, hts⟩ ct (va_cwS n hts g hw hrm.1 hrm.2.1 hd.2 hrm.2.2) ⟨gl_blind, fun U hU hW => ⟨rfl, by rw [hU]; exact hP, va_K.moved hW.alike hK, hI⟩⟩ rfl hn hl.1 rfl (lv_room hrest) d ⟨Nat.zero_le _, Nat.zero_le _⟩) hS hl k
theorem gl_callVi {index j ci n maxL N : Nat} {T : u_T} {fs : List (Nat ⊕ Nat)} {Cl : String} {y : MethodName} {wsc wsc' : List Cond} {bytes : ByteArray} {retc : Option FieldType} {rmc : Room} {As : List Value} {v : Int32}
    (ct : gl_Ct V.1 lay y wsc rmc (.ref (gl_r V.1 j) :: As) M (some (.int v)) M1) (C : gl_C cc ws own rm ret lay V) (d : decode cc pc = .ok (.invokevirtual index, 3)) (g : GoodIn ws (wsV own index Cl y wsc)) (hw : wsc = Cond.code y bytes maxL retc :: wsc') (hd : gl_hd y Cl n)
    (hrm : rmc.cells = 0 ∧ rmc.slots = 0 ∧ rmc.frames + 1 ≤ rm.frames ∧ 8 + (maxL + 11) + rmc.locals ≤ rm.locals) (hn : As.length = n) (hrest : (rest.map fun v => v.category).sum ≤ 8) (hst : st = As.reverse ++ .ref (gl_r V.1 j) :: rest)
    (hj : lay[j]? = some (.inr (.inl (ci, fs)))) (hci : vwCl[ci]? = some (Cl, T, N)) (k : gl_G lay ov M' V (pc + 3) L (.int v :: rest) M1) : gl_G lay ov M' V pc L st M :=
  gl_callV C d g hw hd hrm hn hrest hst hj hci ct k
theorem gl_callVv {index j ci n maxL N : Nat} {T : u_T} {fs : List (Nat ⊕ Nat)} {Cl : String} {y : MethodName} {wsc wsc' : List Cond} {bytes : ByteArray} {retc : Option FieldType} {rmc : Room} {As : List Value}
    (ct : gl_Ct V.1 lay y wsc rmc (.ref (gl_r V.1 j) :: As) M none M1) (C : gl_C cc ws own rm ret lay V) (d : decode cc pc = .ok (.invokevirtual index, 3)) (g : GoodIn ws (wsV own index Cl y wsc)) (hw : wsc = Cond.code y bytes maxL retc :: wsc') (hd : gl_hd y Cl n)
    (hrm : rmc.cells = 0 ∧ rmc.slots = 0 ∧ rmc.frames + 1 ≤ rm.frames ∧ 8 + (maxL + 11) + rmc.locals ≤ rm.locals) (hn : As.length = n) (hrest : (rest.map fun v => v.category).sum ≤ 8) (hst : st = As.reverse ++ .ref (gl_r V.1 j) :: rest)
    (hj : lay[j]? = some (.inr (.inl (ci, fs)))) (hci : vwCl[ci]? = some (Cl, T, N)) (k : gl_G lay ov M' V (pc + 3) L rest M1) : gl_G lay ov M' V pc L st M :=
  gl_callV C d g hw hd hrm hn hrest hst hj hci ct k
theorem gl_callSi {index n maxL : Nat} {y : MethodName} {wsc wsc' : List Cond} {bytes : ByteArray} {retc : Option FieldType} {rmc : Room} {As : List Value} {v : Int32}
    (ct : gl_Ct V.1 lay y wsc rmc As M (some (.int v)) M1) (C : gl_C cc ws own rm ret lay V) (d : decode cc pc = .ok (.invokestatic index, 3)) (g : GoodIn ws (va_wsS own index y wsc)) (hw : wsc = Cond.code y bytes maxL retc :: wsc') (hd : gl_hd y y.cls n)
    (hrm : rmc.cells = 0 ∧ rmc.slots = 0 ∧ rmc.frames + 1 ≤ rm.frames ∧ 8 + (maxL + 11) + rmc.locals ≤ rm.locals) (hn : As.length = n) (hrest : (rest.map fun v => v.category).sum ≤ 8) (hst : st = As.reverse ++ rest)
    (k : gl_G lay ov M' V (pc + 3) L (.int v :: rest) M1) : gl_G lay ov M' V pc L st M := gl_callS C d g hw hd hrm hn hrest hst ct k
theorem gl_callSv {index n maxL : Nat} {y : MethodName} {wsc wsc' : List Cond} {bytes : ByteArray} {retc : Option FieldType} {rmc : Room} {As : List Value}
    (ct : gl_Ct V.1 lay y wsc rmc As M none M1) (C : gl_C cc ws own rm ret lay V) (d : decode cc pc = .ok (.invokestatic index, 3)) (g : GoodIn ws (va_wsS own index y wsc)) (hw : wsc = Cond.code y bytes maxL retc :: wsc') (hd : gl_hd y y.cls n)
    (hrm : rmc.cells = 0 ∧ rmc.slots = 0 ∧ rmc.frames + 1 ≤ rm.frames ∧ 8 + (maxL + 11) + rmc.locals ≤ rm.locals) (hn : As.length = n) (hrest : (rest.map fun v => v.category).sum ≤ 8) (hst : st = As.reverse ++ rest)
    (k : gl_G lay ov M' V (pc + 3) L rest M1) : gl_G lay ov M' V pc L st M := gl_callS C d g hw hd hrm hn hrest hst ct k
theorem gl_lald {j n : Nat} {f : Nat → Nat} {i : Int32} (k : Nat) (C : gl_C cc ws own rm ret lay V) (d : decode cc pc = .ok (.laload, 1)) (hj : lay[j]? = some (.inr (.inr (.inr (n, f))))) (hi : i = nI k) (hk : k < n)
    (h : gl_G lay ov M' V (pc + 1) L (.long (gl_lg M (f k)) :: st) M) : gl_G lay ov M' V pc L (.int i :: .ref (gl_r V.1 j) :: st) M := by
  obtain ⟨F, p, e, R, s, m, args, below, meth, c, nL⟩ := V
  obtain ⟨hx, hb, hml, hown, hts, hK, hI, hok, hlk, hr, rfl⟩ := C
  intro H locs ls hP hS hl
  have hn : 2 * n < 2 ^ 31 := hok.2 j _ hj
  subst hi
  have h1 := nI_clamp (n := k) (by omega)
  refine va_lald (D := F.2.1) hx hb hK hP j 2 (gl_w_at hj) rfl (vp_in_nI hk (by omega)) d ?_
  rw [h1, if_pos hk]
  exact h H locs ls hP hS hl
theorem gl_last {j n : Nat} {f : Nat → Nat} {i : Int32} {x : Int64} (k : Nat) (C : gl_C cc ws own rm ret lay V) (d : decode cc pc = .ok (.lastore, 1)) (hj : lay[j]? = some (.inr (.inr (.inr (n, f))))) (hi : i = nI k) (hk : k < n)
    (h : gl_G lay ov M' V (pc + 1) L st (upd2 M (f k) x)) : gl_G lay ov M' V pc L (.long x :: .int i :: .ref (gl_r V.1 j) :: st) M := by
  obtain ⟨F, p, e, R, s, m, args, below, meth, c, nL⟩ := V
  obtain ⟨hx, hb, hml, hown, hts, hK, hI, hok, hlk, hr, rfl⟩ := C
  intro H locs ls hP hS hl
  have hn : 2 * n < 2 ^ 31 := hok.2 j _ hj
  subst hi
  have h1 := nI_clamp (n := k) (by omega)
  refine va_last (D := F.2.1) hx hb hK hP (gl_w_D hI) hS j 2 (gl_w_at hj) rfl (vp_in_nI hk (by omega)) d (fun H1 locs1 hP1 _ hS1 => ?_)
  rw [h1] at hP1
  exact h H1 locs1 ls (gl_set_lrow hok hj hk x ▸ hP1) hS1 hl
theorem gl_topl {x y : Int64} (hx : x = y) (h : gl_G lay ov M' V pc L (.long y :: st) M) : gl_G lay ov M' V pc L (.long x :: st) M := by rw [hx]; exact h
theorem gl_lret {v w : Int64} (C : gl_C cc ws own rm (some .long) lay V) (d : decode cc pc = .ok (.lreturn, 1)) (hv : v = w) (hM : M = M') : gl_G lay (some (.long w)) M' V pc L [.long v] M := by
  obtain ⟨F, p, e, R, s, m, args, below, meth, c, nL⟩ := V
  obtain ⟨hx, hb, hml, hown, hts, hK, hI, hok, hlk, hr, rfl⟩ := C
  subst hv
  subst hM
  intro H locs ls hP hS hl
  exact W.lret hx hb hr (fun t ht hW => ⟨rfl, by rw [ht]; exact hP, hS.F ht⟩) hS.2.2 d hlk
theorem gl_abs {index : Nat} {x : Int32} (C : gl_C cc ws own rm ret lay V) (d : decode cc pc = .ok (.invokestatic index, 3)) (h1 : Cond.methodLink own index Lib.Math.abs.name ∈ ws) (h2 : Cond.static Lib.Math.abs.name ∈ ws) (h3 : Cond.initialized "java/lang/Math" ∈ ws) (h4 : Cond.code Lib.Math.abs.name Lib.Math.abs.code 1 (some .int) ∈ ws)
    (hrm : 1 ≤ rm.frames ∧ (st.map fun v => v.category).sum + 13 ≤ rm.locals) (k : gl_G lay ov M' V (pc + 3) L (.int (if 0 ≤ x then x else 0 - x) :: st) M) : gl_G lay ov M' V pc L (.int x :: st) M := by
  obtain ⟨F, p, e, R, s, m, args, below, meth, c, nL⟩ := V
  obtain ⟨hx, hb, hml, hown, hts, hK, hI, hok, hlk, hr, rfl⟩ := C
  intro H locs ls hP hS hl
  exact va_mabs hx hb (by rw [hml]; exact hl.1.symm) hown (hts _ h1) (hts _ h2) (hts _ h3) (hts _ h4) hrm.1 hrm.2 (Nat.zero_le _) (Nat.zero_le _) d (k H locs ls hP hS hl)
theorem gl_min {index : Nat} {x y : Int32} (C : gl_C cc ws own rm ret lay V) (d : decode cc pc = .ok (.invokestatic index, 3)) (h1 : Cond.methodLink own index Lib.Math.min.name ∈ ws) (h2 : Cond.static Lib.Math.min.name ∈ ws) (h3 : Cond.initialized "java/lang/Math" ∈ ws) (h4 : Cond.code Lib.Math.min.name Lib.Math.min.code 2 (some .int) ∈ ws)
    (hrm : 1 ≤ rm.frames ∧ (st.map fun v => v.category).sum + 13 ≤ rm.locals) (k : gl_G lay ov M' V (pc + 3) L (.int (if y < x then y else x) :: st) M) : gl_G lay ov M' V pc L (.int y :: .int x :: st) M := by
  obtain ⟨F, p, e, R, s, m, args, below, meth, c, nL⟩ := V
  obtain ⟨hx, hb, hml, hown, hts, hK, hI, hok, hlk, hr, rfl⟩ := C
  intro H locs ls hP hS hl
  exact va_mmin hx hb (by rw [hml]; exact hl.1.symm) hown (hts _ h1) (hts _ h2) (hts _ h3) (hts _ h4) hrm.1 hrm.2 (Nat.zero_le _) (Nat.zero_le _) d (k H locs ls hP hS hl)
/-- one row of numbers whole into another one -/
theorem gl_copy {index j0 j1 n : Nat} {f0 f1 : Nat → Nat} (C : gl_C cc ws own rm ret lay V) (d : decode cc pc = .ok (.invokestatic index, 3)) (h1 : Cond.methodLink own index arraycopyName ∈ ws) (h2 : Cond.native arraycopyName ∈ ws) (h3 : Cond.static arraycopyName ∈ ws) (h4 : Cond.initialized "java/lang/System" ∈ ws)
    (hrm : 1 ≤ rm.frames ∧ (st.map fun v => v.category).sum + (nativeFrameWords "java/lang/System" "arraycopy" 5 + 11) ≤ rm.locals)
    (hj0 : lay[j0]? = some (.inl (n, f0))) (hj1 : lay[j1]? = some (.inl (n, f1))) (M1 : Nat → Int32) (g1 : ∀ k, k < n → M1 (f1 k) = M (f0 k)) (g2 : ∀ (j : Nat) (c : gl_Ce) (k i : Nat), lay[j]? = some c → j ≠ j1 → gl_at c k = some i → M1 i = M i)
    (k : gl_G lay ov M' V (pc + 3) L st M1) : gl_G lay ov M' V pc L (.int (nI n) :: .int (nI 0) :: .ref (gl_r V.1 j1) :: .int (nI 0) :: .ref (gl_r V.1 j0) :: st) M := by
  obtain ⟨F, p, e, R, s, m, args, below, meth, c, nL⟩ := V
  obtain ⟨hx, hb, hml, hown, hts, hK, hI, hok, hlk, hr, rfl⟩ := C
  intro H locs ls hP hS hl
  have hn : n < 2 ^ 31 := hok.2 j0 _ hj0
  have e0 : (nI 0).toNatClampNeg = 0 := nI_clamp (by omega)
  have en : (nI n).toNatClampNeg = n := nI_clamp hn
  refine va_copyi (D := F.2.1) (ty := .int) hx hb (by rw [hml]; exact hl.1.symm) hown (hts _ h1) (hts _ h2) (hts _ h3) (hts _ h4) hK hP (gl_w_D hI) hS j0 j1 0 0 (gl_w_at hj0) (gl_w_at hj1) rfl rfl rfl (nI_pos (by omega)) (nI_pos (by omega)) (nI_pos hn) (by rw [e0, en]; omega) (by rw [e0, en]; omega) (fun _ _ => rfl) hrm.1 hrm.2 d (fun H1 locs1 hP1 _ hS1 => ?_)
  refine k H1 locs1 ls ?_ hS1 hl
  rw [e0, en] at hP1
  have e : (gl_w F lay M).set j1 (gl_r F j1, .inl (F.2.2.1, n, .inl (va_cpy (fun i => if i < n then M (f0 i) else 0) (fun i => if i < n then M (f1 i) else 0) 0 0 n))) = gl_w F lay M1 := by
    apply List.ext_getElem?
    intro j'
    by_cases hjj : j' = j1
    · subst hjj
      rw [List.getElem?_set_self (by rw [gl_w_len]; exact (List.getElem?_eq_some_iff.mp hj1).1), gl_w_at hj1]
      have e : va_cpy (fun i => if i < n then M (f0 i) else 0) (fun i => if i < n then M (f1 i) else 0) 0 0 n = (fun i => if i < n then M1 (f1 i) else 0) := by
        funext i
        unfold va_cpy
        by_cases hi : i < n
        · rw [if_pos ⟨Nat.zero_le _, by omega⟩]
          show (if 0 + (i - 0) < n then M (f0 (0 + (i - 0))) else 0) = _
          rw [Nat.zero_add, Nat.sub_zero, if_pos hi, if_pos hi, g1 i hi]
        · rw [if_neg (by omega)]
          show (if i < n then M (f1 i) else 0) = _
          rw [if_neg hi, if_neg hi]
      simp only [gl_e, e]
    · rw [List.getElem?_set_ne (Ne.symm hjj)]
      cases hc : lay[j']? with
      | none =>
        rw [List.getElem?_eq_none (by rw [gl_w_len]; exact List.getElem?_eq_none_iff.mp hc), List.getElem?_eq_none (by rw [gl_w_len]; exact List.getElem?_eq_none_iff.mp hc)]
      | some c =>
        rw [gl_w_at hc, gl_w_at hc, gl_e_upd (c := c) (M := M) (M' := M1)]
        intro k' i' hi
        exact g2 j' c k' i' hc hjj hi
  exact e ▸ hP1
theorem gl_ladd {x y : Int64} (C : gl_C cc ws own rm ret lay V) (d : decode cc pc = .ok (.ladd, 1)) (k : gl_G lay ov M' V (pc + 1) L (.long (x + y) :: st) M) : gl_G lay ov M' V pc L (.long y :: .long x :: st) M := by
  obtain ⟨F, p, e, R, s, m, args, below, meth, c, nL⟩ := V
  obtain ⟨hx, hb, hml, hown, hts, hK, hI, hok, hlk, hr, rfl⟩ := C
  intro H locs ls hP hS hl
  exact lv_ladd hx hb d (k H locs ls hP hS hl)
theorem gl_lsub {x y : Int64} (C : gl_C cc ws own rm ret lay V) (d : decode cc pc = .ok (.lsub, 1)) (k : gl_G lay ov M' V (pc + 1) L (.long (x - y) :: st) M) : gl_G lay ov M' V pc L (.long y :: .long x :: st) M := by
  obtain ⟨F, p, e, R, s, m, args, below, meth, c, nL⟩ := V
  obtain ⟨hx, hb, hml, hown, hts, hK, hI, hok, hlk, hr, rfl⟩ := C
  intro H locs ls hP hS hl
  exact lv_lsub hx hb d (k H locs ls hP hS hl)
theorem gl_land {x y : Int64} (C : gl_C cc ws own rm ret lay V) (d : decode cc pc = .ok (.land, 1)) (k : gl_G lay ov M' V (pc + 1) L (.long (x &&& y) :: st) M) : gl_G lay ov M' V pc L (.long y :: .long x :: st) M := by
  obtain ⟨F, p, e, R, s, m, args, below, meth, c, nL⟩ := V
  obtain ⟨hx, hb, hml, hown, hts, hK, hI, hok, hlk, hr, rfl⟩ := C
  intro H locs ls hP hS hl
  exact lv_land hx hb d (k H locs ls hP hS hl)
theorem gl_lor {x y : Int64} (C : gl_C cc ws own rm ret lay V) (d : decode cc pc = .ok (.lor, 1)) (k : gl_G lay ov M' V (pc + 1) L (.long (x ||| y) :: st) M) : gl_G lay ov M' V pc L (.long y :: .long x :: st) M := by
  obtain ⟨F, p, e, R, s, m, args, below, meth, c, nL⟩ := V
  obtain ⟨hx, hb, hml, hown, hts, hK, hI, hok, hlk, hr, rfl⟩ := C
  intro H locs ls hP hS hl
  exact lv_lor hx hb d (k H locs ls hP hS hl)
theorem gl_lshl {x : Int64} {y : Int32} (C : gl_C cc ws own rm ret lay V) (d : decode cc pc = .ok (.lshl, 1)) (k : gl_G lay ov M' V (pc + 1) L (.long (x <<< (y.toInt64 &&& 63)) :: st) M) : gl_G lay ov M' V pc L (.int y :: .long x :: st) M := by
  obtain ⟨F, p, e, R, s, m, args, below, meth, c, nL⟩ := V
  obtain ⟨hx, hb, hml, hown, hts, hK, hI, hok, hlk, hr, rfl⟩ := C
  intro H locs ls hP hS hl
  exact lv_lshl hx hb d rfl (k H locs ls hP hS hl)
theorem gl_lshr {x : Int64} {y : Int32} (C : gl_C cc ws own rm ret lay V) (d : decode cc pc = .ok (.lshr, 1)) (k : gl_G lay ov M' V (pc + 1) L (.long (x >>> (y.toInt64 &&& 63)) :: st) M) : gl_G lay ov M' V pc L (.int y :: .long x :: st) M := by
  obtain ⟨F, p, e, R, s, m, args, below, meth, c, nL⟩ := V
  obtain ⟨hx, hb, hml, hown, hts, hK, hI, hok, hlk, hr, rfl⟩ := C
  intro H locs ls hP hS hl
  exact lv_lshr hx hb d rfl (k H locs ls hP hS hl)
theorem gl_i2l {x : Int32} (C : gl_C cc ws own rm ret lay V) (d : decode cc pc = .ok (.i2l, 1)) (k : gl_G lay ov M' V (pc + 1) L (.long x.toInt64 :: st) M) : gl_G lay ov M' V pc L (.int x :: st) M := by
  obtain ⟨F, p, e, R, s, m, args, below, meth, c, nL⟩ := V
  obtain ⟨hx, hb, hml, hown, hts, hK, hI, hok, hlk, hr, rfl⟩ := C
  intro H locs ls hP hS hl
  exact lv_i2l hx hb d rfl (k H locs ls hP hS hl)
theorem gl_l2i {x : Int64} (C : gl_C cc ws own rm ret lay V) (d : decode cc pc = .ok (.l2i, 1)) (k : gl_G lay ov M' V (pc + 1) L (.int x.toInt32 :: st) M) : gl_G lay ov M' V pc L (.long x :: st) M := by
  obtain ⟨F, p, e, R, s, m, args, below, meth, c, nL⟩ := V
  obtain ⟨hx, hb, hml, hown, hts, hK, hI, hok, hlk, hr, rfl⟩ := C
  intro H locs ls hP hS hl
  exact lv_l2i hx hb d rfl (k H locs ls hP hS hl)
theorem gl_lcmp {x y : Int64} (C : gl_C cc ws own rm ret lay V) (d : decode cc pc = .ok (.lcmp, 1)) (k : gl_G lay ov M' V (pc + 1) L (.int (lg_cmp x y) :: st) M) : gl_G lay ov M' V pc L (.long y :: .long x :: st) M := by
  obtain ⟨F, p, e, R, s, m, args, below, meth, c, nL⟩ := V
  obtain ⟨hx, hb, hml, hown, hts, hK, hI, hok, hlk, hr, rfl⟩ := C
  intro H locs ls hP hS hl
  exact W.lcmp hx hb d (k H locs ls hP hS hl)
theorem gl_lconst {n : Fin 2} (v : Int64) (C : gl_C cc ws own rm ret lay V) (d : decode cc pc = .ok (.lconst n, 1)) (hv : Int64.ofNat (n : Nat) = v) (k : gl_G lay ov M' V (pc + 1) L (.long v :: st) M) : gl_G lay ov M' V pc L st M := by
  obtain ⟨F, p, e, R, s, m, args, below, meth, c, nL⟩ := V
  obtain ⟨hx, hb, hml, hown, hts, hK, hI, hok, hlk, hr, rfl⟩ := C
  intro H locs ls hP hS hl
  exact lv_lconst hx hb d hv (k H locs ls hP hS hl)
theorem gl_ldc2 {index : Nat} (v : Int64) (C : gl_C cc ws own rm ret lay V) (d : decode cc pc = .ok (.ldc2_w index, 3)) (hv : Cond.constantLong own index v ∈ ws) (k : gl_G lay ov M' V (pc + 3) L (.long v :: st) M) : gl_G lay ov M' V pc L st M := by
  obtain ⟨F, p, e, R, s, m, args, below, meth, c, nL⟩ := V
  obtain ⟨hx, hb, hml, hown, hts, hK, hI, hok, hlk, hr, rfl⟩ := C
  intro H locs ls hP hS hl
  exact lv_ldc2 hx hb hown (hts _ hv) d (k H locs ls hP hS hl)
theorem gl_lload_0 {T : List (Option Value)} {x : Int64} (C : gl_C cc ws own rm ret lay V) (d : decode cc pc = .ok (.lload_n 0, 1)) (k : gl_G lay ov M' V (pc + 1) (some (.long x) :: T) (.long x :: st) M) : gl_G lay ov M' V pc (some (.long x) :: T) st M := by
  obtain ⟨F, p, e, R, s, m, args, below, meth, c, nL⟩ := V
  obtain ⟨hx, hb, hml, hown, hts, hK, hI, hok, hlk, hr, rfl⟩ := C
  intro H locs ls hP hS hl
  exact lv_lload_n hx hb d rfl (gl_L_at hl (i := 0) rfl) (k H locs ls hP hS hl)
theorem gl_lload_7 {o0 o1 o2 o3 o4 o5 o6 : Option Value} {T : List (Option Value)} {x : Int64} (C : gl_C cc ws own rm ret lay V) (d : decode cc pc = .ok (.lload 7, 2)) (k : gl_G lay ov M' V (pc + 2) (o0 :: o1 :: o2 :: o3 :: o4 :: o5 :: o6 :: some (.long x) :: T) (.long x :: st) M) : gl_G lay ov M' V pc (o0 :: o1 :: o2 :: o3 :: o4 :: o5 :: o6 :: some (.long x) :: T) st M := by
  obtain ⟨F, p, e, R, s, m, args, below, meth, c, nL⟩ := V
  obtain ⟨hx, hb, hml, hown, hts, hK, hI, hok, hlk, hr, rfl⟩ := C
  intro H locs ls hP hS hl
  exact lv_lload hx hb d (gl_L_at hl (i := 7) rfl) (k H locs ls hP hS hl)
theorem gl_lstore_7 {o0 o1 o2 o3 o4 o5 o6 : Option Value} {o o' : Option Value} {T : List (Option Value)} {x : Int64} (C : gl_C cc ws own rm ret lay V) (d : decode cc pc = .ok (.lstore 7, 2)) (k : gl_G lay ov M' V (pc + 2) (o0 :: o1 :: o2 :: o3 :: o4 :: o5 :: o6 :: some (.long x) :: none :: T) st M) (hc : gl_pc (o0 :: o1 :: o2 :: o3 :: o4 :: o5 :: o6 :: o :: o' :: T) 7 = true := by with_unfolding_all rfl) : gl_G lay ov M' V pc (o0 :: o1 :: o2 :: o3 :: o4 :: o5 :: o6 :: o :: o' :: T) (.long x :: st) M := by
  obtain ⟨F, p, e, R, s, m, args, below, meth, c, nL⟩ := V
  obtain ⟨hx, hb, hml, hown, hts, hK, hI, hok, hlk, hr, rfl⟩ := C
  intro H locs ls hP hS hl
  exact lv_lstore hx hb d (gl_L_has hl) (show 7 + 1 < nL by have := hl.2.2.1; simp at this; omega) rfl (fun ls' h' => k H locs ls' hP hS (gl_L_set2 (i := 7) hl h' hc))
theorem gl_lload_12 {o0 o1 o2 o3 o4 o5 o6 o7 o8 o9 o10 o11 : Option Value} {T : List (Option Value)} {x : Int64} (C : gl_C cc ws own rm ret lay V) (d : decode cc pc = .ok (.lload 12, 2)) (k : gl_G lay ov M' V (pc + 2) (o0 :: o1 :: o2 :: o3 :: o4 :: o5 :: o6 :: o7 :: o8 :: o9 :: o10 :: o11 :: some (.long x) :: T) (.long x :: st) M) : gl_G lay ov M' V pc (o0 :: o1 :: o2 :: o3 :: o4 :: o5 :: o6 :: o7 :: o8 :: o9 :: o10 :: o11 :: some (.long x) :: T) st M := by
  obtain ⟨F, p, e, R, s, m, args, below, meth, c, nL⟩ := V
  obtain ⟨hx, hb, hml, hown, hts, hK, hI, hok, hlk, hr, rfl⟩ := C
  intro H locs ls hP hS hl
  exact lv_lload hx hb d (gl_L_at hl (i := 12) rfl) (k H locs ls hP hS hl)
theorem gl_lstore_12 {o0 o1 o2 o3 o4 o5 o6 o7 o8 o9 o10 o11 : Option Value} {o o' : Option Value} {T : List (Option Value)} {x : Int64} (C : gl_C cc ws own rm ret lay V) (d : decode cc pc = .ok (.lstore 12, 2)) (k : gl_G lay ov M' V (pc + 2) (o0 :: o1 :: o2 :: o3 :: o4 :: o5 :: o6 :: o7 :: o8 :: o9 :: o10 :: o11 :: some (.long x) :: none :: T) st M) (hc : gl_pc (o0 :: o1 :: o2 :: o3 :: o4 :: o5 :: o6 :: o7 :: o8 :: o9 :: o10 :: o11 :: o :: o' :: T) 12 = true := by with_unfolding_all rfl) : gl_G lay ov M' V pc (o0 :: o1 :: o2 :: o3 :: o4 :: o5 :: o6 :: o7 :: o8 :: o9 :: o10 :: o11 :: o :: o' :: T) (.long x :: st) M := by
  obtain ⟨F, p, e, R, s, m, args, below, meth, c, nL⟩ := V
  obtain ⟨hx, hb, hml, hown, hts, hK, hI, hok, hlk, hr, rfl⟩ := C
  intro H locs ls hP hS hl
  exact lv_lstore hx hb d (gl_L_has hl) (show 12 + 1 < nL by have := hl.2.2.1; simp at this; omega) rfl (fun ls' h' => k H locs ls' hP hS (gl_L_set2 (i := 12) hl h' hc))
end GLR
