theorem whole_start {p : Program} {e : Env} {s : State} {m : MethodId} {below : List Frame} {meth : Method} {c : Code} (l : Launch) (hflags : l.flags = flags0) {b L : Nat} {xs : Nat → Int32} (hL : L ≤ 2048) (C0 : lw_At p s m meth c b L xs) : W p l e room_1 s m #[Value.ref b] below meth c s.heap [] 0 0 (lw_Z below #[Value.ref b] s) (entryFrame m ([Value.ref b] : List Value).toArray 4) := by
  obtain ⟨hx, hb, hr, hml, hown, hts0, hX, hbl, hlk, hg⟩ := C0
  have hts : ∀ w ∈ wsL_law, w.before #[Value.ref b] s = true := fun w h => hts0 w (wsL_law_in w h)
  have hAO : va_AO "GoalLifts$House" s := va_AO.of (hts0 _ lw_inAO)
  have hNw : gk_Nw s := ⟨va_Nw.of rfl (hts0 _ lw_inN1), va_Nw.of rfl (hts0 _ lw_inN2)⟩
  obtain ⟨K, rfl, hK⟩ := lw_K0 hts hAO l
  have C : lw_C (K, p, e, s, m, b, L, xs, below, meth, c) := ⟨hx, hb, hml, hown, hts, hK, hAO, hNw, hX, hbl, hL, hlk, hr⟩
  have hav : ∀ v ∈ [Value.ref b], v.category = 1 := by intro v hv; simp at hv; subst hv; rfl
  have hl := lv_entry [.ref b] (n := 4) (by rw [gl_sl_len _ hav]; exact Nat.le_of_ble_eq_true rfl)
  rw [lg_entry_eq]
  generalize (lg_sl [Value.ref b] ++ List.replicate (4 - (lg_sl [Value.ref b]).length) Slot.unset).toArray = ls at hl ⊢
  have hL4 : gl_L 4 ls [some (.ref b), none, none, none] := by
    refine ⟨hl.1, hl.2.1, rfl, fun i v hi => ?_⟩
    rcases i with _ | i
    · simp only [List.getElem?_cons_zero, Option.some.injEq] at hi
      subst hi
      exact ⟨hl.2.2 (0, .ref b) (by simp [lv_args]), rfl⟩
    · rw [List.getElem?_cons_succ] at hi
      have := List.eq_of_mem_replicate (n := 3) (a := (none : Option Value)) (List.mem_of_getElem? hi)
      cases this
  have G0 : lw_G (K, p, e, s, m, b, L, xs, below, meth, c) [] 0 0 0 [some (.ref b), none, none, none] [] := by
    refine lw_new (pc := 0) (ci := 4) (Cl := RX4) (T := TX4) (N := 3) (fs := [.null, .null, .null]) tyX4 C dL_law_0 rfl inlX4 tyX4_ok (by decide +kernel) (by decide +kernel) (by decide +kernel) (by decide +kernel) (by omega) (by omega) (fun q => ?_)
    refine lw_dupR (pc := 3) C dL_law_3 ?_
    refine lw_init (pc := 4) (A := []) (layc := LG) (Mc := MG) (ctX4_init K) C dL_law_4 gL_law_X4_init rfl (by decide +kernel) (by decide +kernel) (by decide +kernel) rfl hdX4_init ⟨rfl, rfl, Nat.le_of_ble_eq_true rfl, Nat.le_of_ble_eq_true rfl⟩ ⟨Nat.le_of_ble_eq_true rfl, Nat.le_of_ble_eq_true rfl⟩ (Nat.le_of_ble_eq_true rfl) (fun r er => ?_)
    subst er
    refine lw_ws (List.nil_append _) ?_
    refine lw_astore_1 (pc := 7) C dL_law_7 ?_
    refine lw_new (pc := 8) (ci := 5) (Cl := RX5) (T := TX5) (N := 5) (fs := [.null, .null, .null, .null, .int 0]) tyX5 C dL_law_8 rfl inlX5 tyX5_ok (by decide +kernel) (by decide +kernel) (by decide +kernel) (by decide +kernel) (by omega) (by omega) (fun q => ?_)
    refine lw_dupR (pc := 11) C dL_law_11 ?_
    refine lw_init (pc := 12) (layc := LM) (Mc := MH) (ctX5_init K) C dL_law_12 gL_law_X5_init rfl (by decide +kernel) (by decide +kernel) (by decide +kernel) rfl hdX5_init ⟨rfl, rfl, Nat.le_of_ble_eq_true rfl, Nat.le_of_ble_eq_true rfl⟩ ⟨Nat.le_of_ble_eq_true rfl, Nat.le_of_ble_eq_true rfl⟩ (Nat.le_of_ble_eq_true rfl) (fun rm em => ?_)
    subst em
    refine lw_astore_2 (pc := 15) C dL_law_15 ?_
    refine lw_iconst (pc := 16) (nI 0) C dL_law_16 (by decide) ?_
    refine lw_istore_3 (pc := 17) C dL_law_17 ?_
    refine lw_perm ?_
    exact lw_loop C (rc := fun j => r (lw_em j)) (rm := rm) (L + 4) 0 MG MH lw_Inv0 (by omega) (show L + 4 ≤ 0 + (L + 4) by omega)
  exact G0 s.heap [] ls (fun k q hq => by simp at hq) ⟨fun i j p q hi _ _ => by simp at hi, fun k q hq => by simp at hq⟩ va_S.rf hL4
