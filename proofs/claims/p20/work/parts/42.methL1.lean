set_option maxRecDepth 100000 in
set_option maxHeartbeats 4000000 in
theorem ctL_is0 (F : gl_F) (lay : List gl_Ce) (hok : gl_ok lay) (M : Nat → Int32) (x : Int64) : gl_Ct F lay yL_is wsL_is rmL_is [.long x] M (some (.int (lg_is x))) (M) := by
  refine gl_metL (cc := cL_is) (ret := some .int) (plainFor_of_name (by decide)) rfl hok (fun V hV C => ?_)
  subst hV
  refine gl_lload_0 (pc := 0) C dL_is_0 ?_
  refine gl_bipush (pc := 1) (nI 8) C dL_is_1 (by decide +kernel) ?_
  refine gl_lshr (pc := 3) C dL_is_3 ?_
  refine gl_ldc2 (pc := 4) (3) C dL_is_4 (by decide +kernel) ?_
  refine gl_land (pc := 7) C dL_is_7 ?_
  refine gl_l2i (pc := 8) C dL_is_8 ?_
  exact gl_iret (pc := 9) C dL_is_9 (rfl) (rfl)
set_option maxRecDepth 100000 in
set_option maxHeartbeats 4000000 in
theorem ctL_by0 (F : gl_F) (lay : List gl_Ce) (hok : gl_ok lay) (M : Nat → Int32) (x : Int64) : gl_Ct F lay yL_by wsL_by rmL_by [.long x] M (some (.int (lg_by x))) (M) := by
  refine gl_metL (cc := cL_by) (ret := some .int) (plainFor_of_name (by decide)) rfl hok (fun V hV C => ?_)
  subst hV
  refine gl_lload_0 (pc := 0) C dL_by_0 ?_
  refine gl_bipush (pc := 1) (nI 10) C dL_by_1 (by decide +kernel) ?_
  refine gl_lshr (pc := 3) C dL_by_3 ?_
  refine gl_ldc2 (pc := 4) (7) C dL_by_4 (by decide +kernel) ?_
  refine gl_land (pc := 7) C dL_by_7 ?_
  refine gl_l2i (pc := 8) C dL_by_8 ?_
  refine gl_iconst (pc := 9) (nI 1) C dL_by_9 (by decide) ?_
  refine gl_isub (pc := 10) C dL_by_10 ?_
  exact gl_iret (pc := 11) C dL_by_11 (rfl) (rfl)
set_option maxRecDepth 100000 in
set_option maxHeartbeats 4000000 in
theorem ctL_floor0 (F : gl_F) (lay : List gl_Ce) (hok : gl_ok lay) (M : Nat → Int32) (x : Int64) : gl_Ct F lay yL_floor wsL_floor rmL_floor [.long x] M (some (.int (lg_fl x))) (M) := by
  refine gl_metL (cc := cL_floor) (ret := some .int) (plainFor_of_name (by decide)) rfl hok (fun V hV C => ?_)
  subst hV
  refine gl_lload_0 (pc := 0) C dL_floor_0 ?_
  refine gl_ldc2 (pc := 1) (15) C dL_floor_1 (by decide +kernel) ?_
  refine gl_land (pc := 4) C dL_floor_4 ?_
  refine gl_l2i (pc := 5) C dL_floor_5 ?_
  exact gl_iret (pc := 6) C dL_floor_6 (rfl) (rfl)
set_option maxRecDepth 100000 in
set_option maxHeartbeats 4000000 in
theorem ctL_goal0 (F : gl_F) (lay : List gl_Ce) (hok : gl_ok lay) (M : Nat → Int32) (x : Int64) : gl_Ct F lay yL_goal wsL_goal rmL_goal [.long x] M (some (.int (lg_go x))) (M) := by
  refine gl_metL (cc := cL_goal) (ret := some .int) (plainFor_of_name (by decide)) rfl hok (fun V hV C => ?_)
  subst hV
  refine gl_lload_0 (pc := 0) C dL_goal_0 ?_
  refine gl_iconst (pc := 1) (nI 4) C dL_goal_1 (by decide) ?_
  refine gl_lshr (pc := 2) C dL_goal_2 ?_
  refine gl_ldc2 (pc := 3) (15) C dL_goal_3 (by decide +kernel) ?_
  refine gl_land (pc := 6) C dL_goal_6 ?_
  refine gl_l2i (pc := 7) C dL_goal_7 ?_
  exact gl_iret (pc := 8) C dL_goal_8 (rfl) (rfl)
theorem ctL_is (F : gl_F) (lay : List gl_Ce) (hok : gl_ok lay) (M : Nat → Int32) {S : Nat → Int32} {A k : Nat} (hA : A < 2048) (h : qk S A k) : gl_Ct F lay yL_is wsL_is rmL_is [.long (lN (pkn S k))] M (some (.int (S (iK k 2)))) M := by
  have e := ctL_is0 F lay hok M (lN (pkn S k))
  rw [qk_is hA h] at e
  exact e
theorem ctL_by (F : gl_F) (lay : List gl_Ce) (hok : gl_ok lay) (M : Nat → Int32) {S : Nat → Int32} {A k : Nat} (hA : A < 2048) (h : qk S A k) : gl_Ct F lay yL_by wsL_by rmL_by [.long (lN (pkn S k))] M (some (.int (qby S k))) M := by
  have e := ctL_by0 F lay hok M (lN (pkn S k))
  rw [qk_by hA h] at e
  exact e
theorem ctL_floor (F : gl_F) (lay : List gl_Ce) (hok : gl_ok lay) (M : Nat → Int32) {S : Nat → Int32} {A k : Nat} (hA : A < 2048) (h : qk S A k) : gl_Ct F lay yL_floor wsL_floor rmL_floor [.long (lN (pkn S k))] M (some (.int (S (iK k 0)))) M := by
  have e := ctL_floor0 F lay hok M (lN (pkn S k))
  rw [qk_fl hA h] at e
  exact e
theorem ctL_goal (F : gl_F) (lay : List gl_Ce) (hok : gl_ok lay) (M : Nat → Int32) {S : Nat → Int32} {A k : Nat} (hA : A < 2048) (h : qk S A k) : gl_Ct F lay yL_goal wsL_goal rmL_goal [.long (lN (pkn S k))] M (some (.int (S (iK k 1)))) M := by
  have e := ctL_goal0 F lay hok M (lN (pkn S k))
  rw [qk_go hA h] at e
  exact e
set_option maxRecDepth 100000 in
set_option maxHeartbeats 4000000 in
theorem ctL_far (F : gl_F) (lay : List gl_Ce) (hok : gl_ok lay) (M : Nat → Int32) (x y : Int32) : gl_Ct F lay yL_far wsL_far rmL_far [.int x, .int y] M (some (.int (sp_far x y))) (M) := by
  refine gl_met (cc := cL_far) (maxL := 2) (ret := some .int) [some (.int x), some (.int y)] (plainFor_of_name (by decide)) rfl hok (by simp [Value.category]) (Nat.le_of_ble_eq_true rfl) rfl (fun V hV C => ?_)
  subst hV
  refine gl_iload_0 (pc := 0) C dL_far_0 ?_
  refine gl_iload_1 (pc := 1) C dL_far_1 ?_
  refine gl_icmp_le (pc := 2) 11 C dL_far_2 (by decide) (fun h2 => ?_) (fun h2 => ?_)
  · skip
    refine gl_iload_1 (pc := 11) C dL_far_11 ?_
    refine gl_iload_0 (pc := 12) C dL_far_12 ?_
    refine gl_isub (pc := 13) C dL_far_13 ?_
    exact gl_iret (pc := 14) C dL_far_14 (by first | exact lg_far1 h2 | exact lg_far2 h2) (rfl)
  · skip
    refine gl_iload_0 (pc := 5) C dL_far_5 ?_
    refine gl_iload_1 (pc := 6) C dL_far_6 ?_
    refine gl_isub (pc := 7) C dL_far_7 ?_
    refine gl_goto (pc := 8) 14 C dL_far_8 (by decide) ?_
    exact gl_iret (pc := 14) C dL_far_14 (by first | exact lg_far1 h2 | exact lg_far2 h2) (rfl)
set_option maxRecDepth 100000 in
set_option maxHeartbeats 4000000 in
theorem ctL_low (F : gl_F) (lay : List gl_Ce) (hok : gl_ok lay) (M : Nat → Int32) (x : Int32) {d : Nat} (hd0 : 0 < d) (hd : d < 2 ^ 31) : gl_Ct F lay yL_low wsL_low rmL_low [.int x, .int (nI d)] M (some (.int (nI (lg_low x d)))) (M) := by
  refine gl_met (cc := cL_low) (maxL := 2) (ret := some .int) [some (.int x), some (.int (nI d))] (plainFor_of_name (by decide)) rfl hok (by simp [Value.category]) (Nat.le_of_ble_eq_true rfl) rfl (fun V hV C => ?_)
  subst hV
  refine gl_iload_0 (pc := 0) C dL_low_0 ?_
  refine gl_ldc (pc := 1) (2147483647) C dL_low_1 (by decide +kernel) ?_
  refine gl_iand (pc := 3) C dL_low_3 ?_
  refine gl_iload_1 (pc := 4) C dL_low_4 ?_
  refine gl_irem (pc := 5) C dL_low_5 (nI_ne0 hd0 hd) ?_
  exact gl_iret (pc := 6) C dL_low_6 (lg_low_ok hd0 hd) (rfl)
set_option maxRecDepth 100000 in
set_option maxHeartbeats 4000000 in
theorem ctL_those (F : gl_F) {n A : Nat} {S : Nat → Int32} (hn40 : n ≤ 40) (hn : S 2 = nI n) (q : qW S A n) {c : Nat} (hc : c < 5) (st : Int32) : gl_Ct F LA yL_those wsL_those rmL_those [.ref (gl_r F 0), .ref (gl_r F 3), .int (nI c), .int st] (en S n) (some (.int (sp_of S (nI c) st n))) ((en S n)) := by
  refine gl_met (cc := cL_those) (maxL := 6) (ret := some .int) [some (.ref (gl_r F 0)), some (.ref (gl_r F 3)), some (.int (nI c)), some (.int st), none, none] (plainFor_of_name (by decide)) rfl ok_LA (by simp [Value.category]) (Nat.le_of_ble_eq_true rfl) rfl (fun V hV C => ?_)
  subst hV
  refine gl_iconst (pc := 0) (nI 0) C dL_those_0 (by decide) ?_
  refine gl_istore_4 (pc := 1) C dL_those_1 ?_
  refine gl_iconst (pc := 3) (nI 0) C dL_those_3 (by decide) ?_
  refine gl_istore_5 (pc := 4) C dL_those_4 ?_
  refine gl_loop (pc := 6) (n := n) (fun k => [some (.ref (gl_r V.1 0)), some (.ref (gl_r V.1 3)), some (.int (nI c)), some (.int st), some (.int (sp_of S (nI c) st k)), some (.int (nI k))]) (fun k => (en S n)) (fun k => True) 0 (Nat.zero_le _) (trivial) (gl_le_c (rfl) (gl_le_c (rfl) (gl_le_c (rfl) (gl_le_c (rfl) (gl_le_c (rfl) (gl_le_c (rfl) (gl_le_n))))))) (rfl) (fun hI => ?_) (fun k hk hI ih => ?_)
  · skip
    refine gl_iload_5 (pc := 6) C dL_those_6 ?_
    refine gl_aload_0 (pc := 8) C dL_those_8 ?_
    refine gl_iconst (pc := 9) (nI 2) C dL_those_9 (by decide) ?_
    refine gl_iald (pc := 10) _ C dL_those_10 rfl rfl (by omega) ?_
    refine gl_top ((en_i (by omega)).trans hn) ?_
    refine gl_icmp_ge (pc := 11) 56 C dL_those_11 (by decide) (fun h11 => ?_) (fun h11 => absurd h11 (gl_xge))
    refine gl_iload_4 (pc := 56) C dL_those_56 ?_
    exact gl_iret (pc := 58) C dL_those_58 (rfl) (rfl)
  · skip
    have qk := q.2 k hk
    refine gl_iload_5 (pc := 6) C dL_those_6 ?_
    refine gl_aload_0 (pc := 8) C dL_those_8 ?_
    refine gl_iconst (pc := 9) (nI 2) C dL_those_9 (by decide) ?_
    refine gl_iald (pc := 10) _ C dL_those_10 rfl rfl (by omega) ?_
    refine gl_top ((en_i (by omega)).trans hn) ?_
    refine gl_icmp_ge (pc := 11) 56 C dL_those_11 (by decide) (fun h11 => absurd h11 (nI_ge hk (by omega))) (fun h11 => ?_)
    refine gl_iload_4 (pc := 14) C dL_those_14 ?_
    refine gl_aload_1 (pc := 16) C dL_those_16 ?_
    refine gl_iload_5 (pc := 17) C dL_those_17 ?_
    refine gl_lald (pc := 19) _ C dL_those_19 rfl rfl (by omega) ?_
    refine gl_topl (en_c (by omega) hk) ?_
    refine gl_callSi (pc := 20) (ctL_is V.1 LA ok_LA _ q.1 qk) C dL_those_20 gL_those_L_is rfl hdL_is ⟨rfl, rfl, Nat.le_of_ble_eq_true rfl, Nat.le_of_ble_eq_true rfl⟩ rfl (Nat.le_of_ble_eq_true rfl) rfl ?_
    refine gl_iload_3 (pc := 23) C dL_those_23 ?_
    refine gl_icmp_ne (pc := 24) 46 C dL_those_24 (by decide) (fun h24 => ?_) (fun h24 => ?_)
    · skip
      refine gl_iconst (pc := 46) (nI 0) C dL_those_46 (by decide) ?_
      first | with_reducible refine gl_iaddN (pc := 47) C dL_those_47 ?_ | refine gl_iadd (pc := 47) C dL_those_47 ?_
      refine gl_istore_4 (pc := 48) C dL_those_48 ?_
      first | with_reducible refine gl_iincN_5 (pc := 50) gl_i1 C dL_those_50 ?_ | refine gl_iinc_5 (pc := 50) C dL_those_50 (gl_inc1 _) ?_
      refine gl_goto (pc := 53) 6 C dL_those_53 (by decide) ?_
      exact gl_on (ih (trivial)) (gl_le_c (rfl) (gl_le_c (rfl) (gl_le_c (rfl) (gl_le_c (rfl) (gl_le_c (congrArg Value.int (by simp only [sp_of]; rw [if_neg (fun z => h24 z.1), gl_add0])) (gl_le_c (rfl) (gl_le_n))))))) (rfl)
    · skip
      refine gl_iload_2 (pc := 27) C dL_those_27 ?_
      refine gl_iflt (pc := 28) 42 C dL_those_28 (by decide) (fun h28 => absurd h28 (nI_pos (by omega))) (fun h28 => ?_)
      refine gl_aload_1 (pc := 31) C dL_those_31 ?_
      refine gl_iload_5 (pc := 32) C dL_those_32 ?_
      refine gl_lald (pc := 34) _ C dL_those_34 rfl rfl (by omega) ?_
      refine gl_topl (en_c (by omega) hk) ?_
      refine gl_callSi (pc := 35) (ctL_by V.1 LA ok_LA _ q.1 qk) C dL_those_35 gL_those_L_by rfl hdL_by ⟨rfl, rfl, Nat.le_of_ble_eq_true rfl, Nat.le_of_ble_eq_true rfl⟩ rfl (Nat.le_of_ble_eq_true rfl) rfl ?_
      refine gl_iload_2 (pc := 38) C dL_those_38 ?_
      refine gl_icmp_ne (pc := 39) 46 C dL_those_39 (by decide) (fun h39 => ?_) (fun h39 => ?_)
      · skip
        replace h39 := fun z => h39 ((qby_c qk (by omega)).mpr z)
        refine gl_iconst (pc := 46) (nI 0) C dL_those_46 (by decide) ?_
        first | with_reducible refine gl_iaddN (pc := 47) C dL_those_47 ?_ | refine gl_iadd (pc := 47) C dL_those_47 ?_
        refine gl_istore_4 (pc := 48) C dL_those_48 ?_
        first | with_reducible refine gl_iincN_5 (pc := 50) gl_i1 C dL_those_50 ?_ | refine gl_iinc_5 (pc := 50) C dL_those_50 (gl_inc1 _) ?_
        refine gl_goto (pc := 53) 6 C dL_those_53 (by decide) ?_
        exact gl_on (ih (trivial)) (gl_le_c (rfl) (gl_le_c (rfl) (gl_le_c (rfl) (gl_le_c (rfl) (gl_le_c (congrArg Value.int (by simp only [sp_of]; rw [if_neg (fun z => h39 z.2), gl_add0])) (gl_le_c (rfl) (gl_le_n))))))) (rfl)
      · skip
        replace h39 := (qby_c qk (by omega)).mp h39
        refine gl_iconst (pc := 42) (nI 1) C dL_those_42 (by decide) ?_
        refine gl_goto (pc := 43) 47 C dL_those_43 (by decide) ?_
        first | with_reducible refine gl_iaddN (pc := 47) C dL_those_47 ?_ | refine gl_iadd (pc := 47) C dL_those_47 ?_
        refine gl_istore_4 (pc := 48) C dL_those_48 ?_
        first | with_reducible refine gl_iincN_5 (pc := 50) gl_i1 C dL_those_50 ?_ | refine gl_iinc_5 (pc := 50) C dL_those_50 (gl_inc1 _) ?_
        refine gl_goto (pc := 53) 6 C dL_those_53 (by decide) ?_
        exact gl_on (ih (trivial)) (gl_le_c (rfl) (gl_le_c (rfl) (gl_le_c (rfl) (gl_le_c (rfl) (gl_le_c (congrArg Value.int (by simp only [sp_of]; rw [if_pos ⟨h24, h39⟩])) (gl_le_c (rfl) (gl_le_n))))))) (rfl)
set_option maxRecDepth 100000 in
set_option maxHeartbeats 4000000 in
theorem ctL_those_all (F : gl_F) {n A : Nat} {S : Nat → Int32} (hn40 : n ≤ 40) (hn : S 2 = nI n) (q : qW S A n) (st : Int32) : gl_Ct F LA yL_those wsL_those rmL_those [.ref (gl_r F 0), .ref (gl_r F 3), .int (-1), .int st] (en S n) (some (.int (sp_in S st n))) ((en S n)) := by
  refine gl_met (cc := cL_those) (maxL := 6) (ret := some .int) [some (.ref (gl_r F 0)), some (.ref (gl_r F 3)), some (.int (-1)), some (.int st), none, none] (plainFor_of_name (by decide)) rfl ok_LA (by simp [Value.category]) (Nat.le_of_ble_eq_true rfl) rfl (fun V hV C => ?_)
  subst hV
  refine gl_iconst (pc := 0) (nI 0) C dL_those_0 (by decide) ?_
  refine gl_istore_4 (pc := 1) C dL_those_1 ?_
  refine gl_iconst (pc := 3) (nI 0) C dL_those_3 (by decide) ?_
  refine gl_istore_5 (pc := 4) C dL_those_4 ?_
  refine gl_loop (pc := 6) (n := n) (fun k => [some (.ref (gl_r V.1 0)), some (.ref (gl_r V.1 3)), some (.int (-1)), some (.int st), some (.int (sp_in S st k)), some (.int (nI k))]) (fun k => (en S n)) (fun k => True) 0 (Nat.zero_le _) (trivial) (gl_le_c (rfl) (gl_le_c (rfl) (gl_le_c (rfl) (gl_le_c (rfl) (gl_le_c (rfl) (gl_le_c (rfl) (gl_le_n))))))) (rfl) (fun hI => ?_) (fun k hk hI ih => ?_)
  · skip
    refine gl_iload_5 (pc := 6) C dL_those_6 ?_
    refine gl_aload_0 (pc := 8) C dL_those_8 ?_
    refine gl_iconst (pc := 9) (nI 2) C dL_those_9 (by decide) ?_
    refine gl_iald (pc := 10) _ C dL_those_10 rfl rfl (by omega) ?_
    refine gl_top ((en_i (by omega)).trans hn) ?_
    refine gl_icmp_ge (pc := 11) 56 C dL_those_11 (by decide) (fun h11 => ?_) (fun h11 => absurd h11 (gl_xge))
    refine gl_iload_4 (pc := 56) C dL_those_56 ?_
    exact gl_iret (pc := 58) C dL_those_58 (rfl) (rfl)
  · skip
    have qk := q.2 k hk
    refine gl_iload_5 (pc := 6) C dL_those_6 ?_
    refine gl_aload_0 (pc := 8) C dL_those_8 ?_
    refine gl_iconst (pc := 9) (nI 2) C dL_those_9 (by decide) ?_
    refine gl_iald (pc := 10) _ C dL_those_10 rfl rfl (by omega) ?_
    refine gl_top ((en_i (by omega)).trans hn) ?_
    refine gl_icmp_ge (pc := 11) 56 C dL_those_11 (by decide) (fun h11 => absurd h11 (nI_ge hk (by omega))) (fun h11 => ?_)
    refine gl_iload_4 (pc := 14) C dL_those_14 ?_
    refine gl_aload_1 (pc := 16) C dL_those_16 ?_
    refine gl_iload_5 (pc := 17) C dL_those_17 ?_
    refine gl_lald (pc := 19) _ C dL_those_19 rfl rfl (by omega) ?_
    refine gl_topl (en_c (by omega) hk) ?_
    refine gl_callSi (pc := 20) (ctL_is V.1 LA ok_LA _ q.1 qk) C dL_those_20 gL_those_L_is rfl hdL_is ⟨rfl, rfl, Nat.le_of_ble_eq_true rfl, Nat.le_of_ble_eq_true rfl⟩ rfl (Nat.le_of_ble_eq_true rfl) rfl ?_
    refine gl_iload_3 (pc := 23) C dL_those_23 ?_
    refine gl_icmp_ne (pc := 24) 46 C dL_those_24 (by decide) (fun h24 => ?_) (fun h24 => ?_)
    · skip
      refine gl_iconst (pc := 46) (nI 0) C dL_those_46 (by decide) ?_
      first | with_reducible refine gl_iaddN (pc := 47) C dL_those_47 ?_ | refine gl_iadd (pc := 47) C dL_those_47 ?_
      refine gl_istore_4 (pc := 48) C dL_those_48 ?_
      first | with_reducible refine gl_iincN_5 (pc := 50) gl_i1 C dL_those_50 ?_ | refine gl_iinc_5 (pc := 50) C dL_those_50 (gl_inc1 _) ?_
      refine gl_goto (pc := 53) 6 C dL_those_53 (by decide) ?_
      exact gl_on (ih (trivial)) (gl_le_c (rfl) (gl_le_c (rfl) (gl_le_c (rfl) (gl_le_c (rfl) (gl_le_c (congrArg Value.int (by simp only [sp_in]; first | rw [if_pos h24] | rw [if_neg h24, gl_add0])) (gl_le_c (rfl) (gl_le_n))))))) (rfl)
    · skip
      refine gl_iload_2 (pc := 27) C dL_those_27 ?_
      refine gl_iflt (pc := 28) 42 C dL_those_28 (by decide) (fun h28 => ?_) (fun h28 => absurd h28 (not_not_intro (by decide)))
      refine gl_iconst (pc := 42) (nI 1) C dL_those_42 (by decide) ?_
      refine gl_goto (pc := 43) 47 C dL_those_43 (by decide) ?_
      first | with_reducible refine gl_iaddN (pc := 47) C dL_those_47 ?_ | refine gl_iadd (pc := 47) C dL_those_47 ?_
      refine gl_istore_4 (pc := 48) C dL_those_48 ?_
      first | with_reducible refine gl_iincN_5 (pc := 50) gl_i1 C dL_those_50 ?_ | refine gl_iinc_5 (pc := 50) C dL_those_50 (gl_inc1 _) ?_
      refine gl_goto (pc := 53) 6 C dL_those_53 (by decide) ?_
      exact gl_on (ih (trivial)) (gl_le_c (rfl) (gl_le_c (rfl) (gl_le_c (rfl) (gl_le_c (rfl) (gl_le_c (congrArg Value.int (by simp only [sp_in]; first | rw [if_pos h24] | rw [if_neg h24, gl_add0])) (gl_le_c (rfl) (gl_le_n))))))) (rfl)
set_option maxRecDepth 100000 in
set_option maxHeartbeats 4000000 in
theorem ctL_stops (F : gl_F) {n A : Nat} {S : Nat → Int32} (hn40 : n ≤ 40) (hn : S 2 = nI n) (q : qW S A n) {c : Nat} (hc : c < 5) (more : Int32) : gl_Ct F LA yL_stops wsL_stops rmL_stops [.ref (gl_r F 0), .ref (gl_r F 3), .int (nI c), .int more] (en S n) (some (.int (sp_pop (sp_stops S (nI c) n ||| more)))) ((en S n)) := by
  refine gl_met (cc := cL_stops) (maxL := 8) (ret := some .int) [some (.ref (gl_r F 0)), some (.ref (gl_r F 3)), some (.int (nI c)), some (.int more), none, none, none, none] (plainFor_of_name (by decide)) rfl ok_LA (by simp [Value.category]) (Nat.le_of_ble_eq_true rfl) rfl (fun V hV C => ?_)
  subst hV
  refine gl_iload_3 (pc := 0) C dL_stops_0 ?_
  refine gl_istore_4 (pc := 1) C dL_stops_1 ?_
  refine gl_iconst (pc := 3) (nI 0) C dL_stops_3 (by decide) ?_
  refine gl_istore_5 (pc := 4) C dL_stops_4 ?_
  refine gl_iconst (pc := 6) (nI 0) C dL_stops_6 (by decide) ?_
  refine gl_istore_6 (pc := 7) C dL_stops_7 ?_
  refine gl_loop (pc := 9) (n := n) (fun k => [some (.ref (gl_r V.1 0)), some (.ref (gl_r V.1 3)), some (.int (nI c)), some (.int more), some (.int (sp_stops S (nI c) k ||| more)), some (.int (nI 0)), some (.int (nI k)), none]) (fun k => (en S n)) (fun k => True) 0 (Nat.zero_le _) (trivial) (gl_le_c (rfl) (gl_le_c (rfl) (gl_le_c (rfl) (gl_le_c (rfl) (gl_le_c (congrArg Value.int (by simp only [sp_stops]; rw [nI_0', Int32.zero_or])) (gl_le_c (rfl) (gl_le_c (rfl) (gl_le_o (gl_le_n))))))))) (rfl) (fun hI => ?_) (fun k hk hI ih => ?_)
  · skip
    refine gl_iload_6 (pc := 9) C dL_stops_9 ?_
    refine gl_aload_0 (pc := 11) C dL_stops_11 ?_
    refine gl_iconst (pc := 12) (nI 2) C dL_stops_12 (by decide) ?_
    refine gl_iald (pc := 13) _ C dL_stops_13 rfl rfl (by omega) ?_
    refine gl_top ((en_i (by omega)).trans hn) ?_
    refine gl_icmp_ge (pc := 14) 120 C dL_stops_14 (by decide) (fun h14 => ?_) (fun h14 => absurd h14 (gl_xge))
    refine gl_iconst (pc := 120) (nI 0) C dL_stops_120 (by decide) ?_
    refine gl_istore_6 (pc := 121) C dL_stops_121 ?_
    refine gl_loop (pc := 123) (n := 16) (fun f => [some (.ref (gl_r V.1 0)), some (.ref (gl_r V.1 3)), some (.int (nI c)), some (.int more), some (.int (sp_stops S (nI c) n ||| more)), some (.int (sp_ones (sp_stops S (nI c) n ||| more) f)), some (.int (nI f)), none]) (fun f => (en S n)) (fun f => True) 0 (Nat.zero_le _) (trivial) (gl_le_c (rfl) (gl_le_c (rfl) (gl_le_c (rfl) (gl_le_c (rfl) (gl_le_c (rfl) (gl_le_c (rfl) (gl_le_c (rfl) (gl_le_o (gl_le_n))))))))) (rfl) (fun hI => ?_) (fun f hf hI ih => ?_)
    · skip
      refine gl_iload_6 (pc := 123) C dL_stops_123 ?_
      refine gl_bipush (pc := 125) (nI 16) C dL_stops_125 (by decide +kernel) ?_
      refine gl_icmp_ge (pc := 127) 148 C dL_stops_127 (by decide) (fun h127 => ?_) (fun h127 => absurd h127 (gl_xge))
      refine gl_iload_5 (pc := 148) C dL_stops_148 ?_
      exact gl_iret (pc := 150) C dL_stops_150 (rfl) (rfl)
    · skip
      refine gl_iload_6 (pc := 123) C dL_stops_123 ?_
      refine gl_bipush (pc := 125) (nI 16) C dL_stops_125 (by decide +kernel) ?_
      refine gl_icmp_ge (pc := 127) 148 C dL_stops_127 (by decide) (fun h127 => absurd h127 (nI_ge hf (by omega))) (fun h127 => ?_)
      refine gl_iload_5 (pc := 130) C dL_stops_130 ?_
      refine gl_iload_4 (pc := 132) C dL_stops_132 ?_
      refine gl_iload_6 (pc := 134) C dL_stops_134 ?_
      refine gl_ishr (pc := 136) C dL_stops_136 ?_
      refine gl_iconst (pc := 137) (nI 1) C dL_stops_137 (by decide) ?_
      refine gl_iand (pc := 138) C dL_stops_138 ?_
      first | with_reducible refine gl_iaddN (pc := 139) C dL_stops_139 ?_ | refine gl_iadd (pc := 139) C dL_stops_139 ?_
      refine gl_istore_5 (pc := 140) C dL_stops_140 ?_
      first | with_reducible refine gl_iincN_6 (pc := 142) gl_i1 C dL_stops_142 ?_ | refine gl_iinc_6 (pc := 142) C dL_stops_142 (gl_inc1 _) ?_
      refine gl_goto (pc := 145) 123 C dL_stops_145 (by decide) ?_
      exact gl_on (ih (trivial)) (gl_le_c (rfl) (gl_le_c (rfl) (gl_le_c (rfl) (gl_le_c (rfl) (gl_le_c (rfl) (gl_le_c (rfl) (gl_le_c (rfl) (gl_le_o (gl_le_n))))))))) (rfl)
  · skip
    have qk := q.2 k hk
    refine gl_iload_6 (pc := 9) C dL_stops_9 ?_
    refine gl_aload_0 (pc := 11) C dL_stops_11 ?_
    refine gl_iconst (pc := 12) (nI 2) C dL_stops_12 (by decide) ?_
    refine gl_iald (pc := 13) _ C dL_stops_13 rfl rfl (by omega) ?_
    refine gl_top ((en_i (by omega)).trans hn) ?_
    refine gl_icmp_ge (pc := 14) 120 C dL_stops_14 (by decide) (fun h14 => absurd h14 (nI_ge hk (by omega))) (fun h14 => ?_)
    refine gl_aload_1 (pc := 17) C dL_stops_17 ?_
    refine gl_iload_6 (pc := 18) C dL_stops_18 ?_
    refine gl_lald (pc := 20) _ C dL_stops_20 rfl rfl (by omega) ?_
    refine gl_topl (en_c (by omega) hk) ?_
    refine gl_callSi (pc := 21) (ctL_by V.1 LA ok_LA _ q.1 qk) C dL_stops_21 gL_stops_L_by rfl hdL_by ⟨rfl, rfl, Nat.le_of_ble_eq_true rfl, Nat.le_of_ble_eq_true rfl⟩ rfl (Nat.le_of_ble_eq_true rfl) rfl ?_
    refine gl_iload_2 (pc := 24) C dL_stops_24 ?_
    refine gl_icmp_ne (pc := 25) 54 C dL_stops_25 (by decide) (fun h25 => ?_) (fun h25 => ?_)
    · skip
      replace h25 := fun z => h25 ((qby_c qk (by omega)).mpr z)
      refine gl_iconst (pc := 54) (nI 0) C dL_stops_54 (by decide) ?_
      refine gl_istore_7 (pc := 55) C dL_stops_55 ?_
      refine gl_iload_4 (pc := 57) C dL_stops_57 ?_
      refine gl_iload_7 (pc := 59) C dL_stops_59 ?_
      refine gl_ifeq (pc := 61) 76 C dL_stops_61 (by decide) (fun h61 => ?_) (fun h61 => absurd h61 (not_not_intro nI_0'))
      refine gl_iconst (pc := 76) (nI 0) C dL_stops_76 (by decide) ?_
      refine gl_ior (pc := 77) C dL_stops_77 ?_
      refine gl_istore_4 (pc := 78) C dL_stops_78 ?_
      refine gl_iload_4 (pc := 80) C dL_stops_80 ?_
      refine gl_iload_7 (pc := 82) C dL_stops_82 ?_
      refine gl_ifeq (pc := 84) 110 C dL_stops_84 (by decide) (fun h84 => ?_) (fun h84 => absurd h84 (not_not_intro nI_0'))
      refine gl_iconst (pc := 110) (nI 0) C dL_stops_110 (by decide) ?_
      refine gl_ior (pc := 111) C dL_stops_111 ?_
      refine gl_istore_4 (pc := 112) C dL_stops_112 ?_
      first | with_reducible refine gl_iincN_6 (pc := 114) gl_i1 C dL_stops_114 ?_ | refine gl_iinc_6 (pc := 114) C dL_stops_114 (gl_inc1 _) ?_
      refine gl_goto (pc := 117) 9 C dL_stops_117 (by decide) ?_
      exact gl_on (ih (trivial)) (gl_le_c (rfl) (gl_le_c (rfl) (gl_le_c (rfl) (gl_le_c (rfl) (gl_le_c (congrArg Value.int (lg_set_no (by first | exact fun z => h25 z.2 | exact fun z => h36 z.1) (by first | exact fun z => h25 z.2 | exact fun z => h47 z.1))) (gl_le_c (rfl) (gl_le_c (rfl) (gl_le_o (gl_le_n))))))))) (rfl)
    · skip
      replace h25 := (qby_c qk (by omega)).mp h25
      refine gl_aload_1 (pc := 28) C dL_stops_28 ?_
      refine gl_iload_6 (pc := 29) C dL_stops_29 ?_
      refine gl_lald (pc := 31) _ C dL_stops_31 rfl rfl (by omega) ?_
      refine gl_topl (en_c (by omega) hk) ?_
      refine gl_callSi (pc := 32) (ctL_is V.1 LA ok_LA _ q.1 qk) C dL_stops_32 gL_stops_L_is rfl hdL_is ⟨rfl, rfl, Nat.le_of_ble_eq_true rfl, Nat.le_of_ble_eq_true rfl⟩ rfl (Nat.le_of_ble_eq_true rfl) rfl ?_
      refine gl_iconst (pc := 35) (nI 1) C dL_stops_35 (by decide) ?_
      refine gl_icmp_eq (pc := 36) 50 C dL_stops_36 (by decide) (fun h36 => ?_) (fun h36 => ?_)
      · skip
        refine gl_iconst (pc := 50) (nI 1) C dL_stops_50 (by decide) ?_
        refine gl_goto (pc := 51) 55 C dL_stops_51 (by decide) ?_
        refine gl_istore_7 (pc := 55) C dL_stops_55 ?_
        refine gl_iload_4 (pc := 57) C dL_stops_57 ?_
        refine gl_iload_7 (pc := 59) C dL_stops_59 ?_
        refine gl_ifeq (pc := 61) 76 C dL_stops_61 (by decide) (fun h61 => absurd h61 (by decide)) (fun h61 => ?_)
        refine gl_iconst (pc := 64) (nI 1) C dL_stops_64 (by decide) ?_
        refine gl_aload_1 (pc := 65) C dL_stops_65 ?_
        refine gl_iload_6 (pc := 66) C dL_stops_66 ?_
        refine gl_lald (pc := 68) _ C dL_stops_68 rfl rfl (by omega) ?_
        refine gl_topl (en_c (by omega) hk) ?_
        refine gl_callSi (pc := 69) (ctL_goal V.1 LA ok_LA _ q.1 qk) C dL_stops_69 gL_stops_L_goal rfl hdL_goal ⟨rfl, rfl, Nat.le_of_ble_eq_true rfl, Nat.le_of_ble_eq_true rfl⟩ rfl (Nat.le_of_ble_eq_true rfl) rfl ?_
        refine gl_ishl (pc := 72) C dL_stops_72 ?_
        refine gl_goto (pc := 73) 77 C dL_stops_73 (by decide) ?_
        refine gl_ior (pc := 77) C dL_stops_77 ?_
        refine gl_istore_4 (pc := 78) C dL_stops_78 ?_
        refine gl_iload_4 (pc := 80) C dL_stops_80 ?_
        refine gl_iload_7 (pc := 82) C dL_stops_82 ?_
        refine gl_ifeq (pc := 84) 110 C dL_stops_84 (by decide) (fun h84 => absurd h84 (by decide)) (fun h84 => ?_)
        refine gl_aload_1 (pc := 87) C dL_stops_87 ?_
        refine gl_iload_6 (pc := 88) C dL_stops_88 ?_
        refine gl_lald (pc := 90) _ C dL_stops_90 rfl rfl (by omega) ?_
        refine gl_topl (en_c (by omega) hk) ?_
        refine gl_callSi (pc := 91) (ctL_is V.1 LA ok_LA _ q.1 qk) C dL_stops_91 gL_stops_L_is rfl hdL_is ⟨rfl, rfl, Nat.le_of_ble_eq_true rfl, Nat.le_of_ble_eq_true rfl⟩ rfl (Nat.le_of_ble_eq_true rfl) rfl ?_
        refine gl_iconst (pc := 94) (nI 1) C dL_stops_94 (by decide) ?_
        refine gl_icmp_ne (pc := 95) 110 C dL_stops_95 (by decide) (fun h95 => absurd h95 (fun z => z h36)) (fun h95 => ?_)
        refine gl_iconst (pc := 98) (nI 1) C dL_stops_98 (by decide) ?_
        refine gl_aload_1 (pc := 99) C dL_stops_99 ?_
        refine gl_iload_6 (pc := 100) C dL_stops_100 ?_
        refine gl_lald (pc := 102) _ C dL_stops_102 rfl rfl (by omega) ?_
        refine gl_topl (en_c (by omega) hk) ?_
        refine gl_callSi (pc := 103) (ctL_floor V.1 LA ok_LA _ q.1 qk) C dL_stops_103 gL_stops_L_floor rfl hdL_floor ⟨rfl, rfl, Nat.le_of_ble_eq_true rfl, Nat.le_of_ble_eq_true rfl⟩ rfl (Nat.le_of_ble_eq_true rfl) rfl ?_
        refine gl_ishl (pc := 106) C dL_stops_106 ?_
        refine gl_goto (pc := 107) 111 C dL_stops_107 (by decide) ?_
        refine gl_ior (pc := 111) C dL_stops_111 ?_
        refine gl_istore_4 (pc := 112) C dL_stops_112 ?_
        first | with_reducible refine gl_iincN_6 (pc := 114) gl_i1 C dL_stops_114 ?_ | refine gl_iinc_6 (pc := 114) C dL_stops_114 (gl_inc1 _) ?_
        refine gl_goto (pc := 117) 9 C dL_stops_117 (by decide) ?_
        exact gl_on (ih (trivial)) (gl_le_c (rfl) (gl_le_c (rfl) (gl_le_c (rfl) (gl_le_c (rfl) (gl_le_c (congrArg Value.int (lg_set_wt ⟨h36, h25⟩)) (gl_le_c (rfl) (gl_le_c (rfl) (gl_le_o (gl_le_n))))))))) (rfl)
      · skip
        refine gl_aload_1 (pc := 39) C dL_stops_39 ?_
        refine gl_iload_6 (pc := 40) C dL_stops_40 ?_
        refine gl_lald (pc := 42) _ C dL_stops_42 rfl rfl (by omega) ?_
        refine gl_topl (en_c (by omega) hk) ?_
        refine gl_callSi (pc := 43) (ctL_is V.1 LA ok_LA _ q.1 qk) C dL_stops_43 gL_stops_L_is rfl hdL_is ⟨rfl, rfl, Nat.le_of_ble_eq_true rfl, Nat.le_of_ble_eq_true rfl⟩ rfl (Nat.le_of_ble_eq_true rfl) rfl ?_
        refine gl_iconst (pc := 46) (nI 2) C dL_stops_46 (by decide) ?_
        refine gl_icmp_ne (pc := 47) 54 C dL_stops_47 (by decide) (fun h47 => ?_) (fun h47 => ?_)
        · skip
          refine gl_iconst (pc := 54) (nI 0) C dL_stops_54 (by decide) ?_
          refine gl_istore_7 (pc := 55) C dL_stops_55 ?_
          refine gl_iload_4 (pc := 57) C dL_stops_57 ?_
          refine gl_iload_7 (pc := 59) C dL_stops_59 ?_
          refine gl_ifeq (pc := 61) 76 C dL_stops_61 (by decide) (fun h61 => ?_) (fun h61 => absurd h61 (not_not_intro nI_0'))
          refine gl_iconst (pc := 76) (nI 0) C dL_stops_76 (by decide) ?_
          refine gl_ior (pc := 77) C dL_stops_77 ?_
          refine gl_istore_4 (pc := 78) C dL_stops_78 ?_
          refine gl_iload_4 (pc := 80) C dL_stops_80 ?_
          refine gl_iload_7 (pc := 82) C dL_stops_82 ?_
          refine gl_ifeq (pc := 84) 110 C dL_stops_84 (by decide) (fun h84 => ?_) (fun h84 => absurd h84 (not_not_intro nI_0'))
          refine gl_iconst (pc := 110) (nI 0) C dL_stops_110 (by decide) ?_
          refine gl_ior (pc := 111) C dL_stops_111 ?_
          refine gl_istore_4 (pc := 112) C dL_stops_112 ?_
          first | with_reducible refine gl_iincN_6 (pc := 114) gl_i1 C dL_stops_114 ?_ | refine gl_iinc_6 (pc := 114) C dL_stops_114 (gl_inc1 _) ?_
          refine gl_goto (pc := 117) 9 C dL_stops_117 (by decide) ?_
          exact gl_on (ih (trivial)) (gl_le_c (rfl) (gl_le_c (rfl) (gl_le_c (rfl) (gl_le_c (rfl) (gl_le_c (congrArg Value.int (lg_set_no (by first | exact fun z => h25 z.2 | exact fun z => h36 z.1) (by first | exact fun z => h25 z.2 | exact fun z => h47 z.1))) (gl_le_c (rfl) (gl_le_c (rfl) (gl_le_o (gl_le_n))))))))) (rfl)
        · skip
          refine gl_iconst (pc := 50) (nI 1) C dL_stops_50 (by decide) ?_
          refine gl_goto (pc := 51) 55 C dL_stops_51 (by decide) ?_
          refine gl_istore_7 (pc := 55) C dL_stops_55 ?_
          refine gl_iload_4 (pc := 57) C dL_stops_57 ?_
          refine gl_iload_7 (pc := 59) C dL_stops_59 ?_
          refine gl_ifeq (pc := 61) 76 C dL_stops_61 (by decide) (fun h61 => absurd h61 (by decide)) (fun h61 => ?_)
          refine gl_iconst (pc := 64) (nI 1) C dL_stops_64 (by decide) ?_
          refine gl_aload_1 (pc := 65) C dL_stops_65 ?_
          refine gl_iload_6 (pc := 66) C dL_stops_66 ?_
          refine gl_lald (pc := 68) _ C dL_stops_68 rfl rfl (by omega) ?_
          refine gl_topl (en_c (by omega) hk) ?_
          refine gl_callSi (pc := 69) (ctL_goal V.1 LA ok_LA _ q.1 qk) C dL_stops_69 gL_stops_L_goal rfl hdL_goal ⟨rfl, rfl, Nat.le_of_ble_eq_true rfl, Nat.le_of_ble_eq_true rfl⟩ rfl (Nat.le_of_ble_eq_true rfl) rfl ?_
          refine gl_ishl (pc := 72) C dL_stops_72 ?_
          refine gl_goto (pc := 73) 77 C dL_stops_73 (by decide) ?_
          refine gl_ior (pc := 77) C dL_stops_77 ?_
          refine gl_istore_4 (pc := 78) C dL_stops_78 ?_
          refine gl_iload_4 (pc := 80) C dL_stops_80 ?_
          refine gl_iload_7 (pc := 82) C dL_stops_82 ?_
          refine gl_ifeq (pc := 84) 110 C dL_stops_84 (by decide) (fun h84 => absurd h84 (by decide)) (fun h84 => ?_)
          refine gl_aload_1 (pc := 87) C dL_stops_87 ?_
          refine gl_iload_6 (pc := 88) C dL_stops_88 ?_
          refine gl_lald (pc := 90) _ C dL_stops_90 rfl rfl (by omega) ?_
          refine gl_topl (en_c (by omega) hk) ?_
          refine gl_callSi (pc := 91) (ctL_is V.1 LA ok_LA _ q.1 qk) C dL_stops_91 gL_stops_L_is rfl hdL_is ⟨rfl, rfl, Nat.le_of_ble_eq_true rfl, Nat.le_of_ble_eq_true rfl⟩ rfl (Nat.le_of_ble_eq_true rfl) rfl ?_
          refine gl_iconst (pc := 94) (nI 1) C dL_stops_94 (by decide) ?_
          refine gl_icmp_ne (pc := 95) 110 C dL_stops_95 (by decide) (fun h95 => ?_) (fun h95 => absurd h95 (fun z => h36 z))
          refine gl_iconst (pc := 110) (nI 0) C dL_stops_110 (by decide) ?_
          refine gl_ior (pc := 111) C dL_stops_111 ?_
          refine gl_istore_4 (pc := 112) C dL_stops_112 ?_
          first | with_reducible refine gl_iincN_6 (pc := 114) gl_i1 C dL_stops_114 ?_ | refine gl_iinc_6 (pc := 114) C dL_stops_114 (gl_inc1 _) ?_
          refine gl_goto (pc := 117) 9 C dL_stops_117 (by decide) ?_
          exact gl_on (ih (trivial)) (gl_le_c (rfl) (gl_le_c (rfl) (gl_le_c (rfl) (gl_le_c (rfl) (gl_le_c (congrArg Value.int (lg_set_rd ⟨h47, h25⟩)) (gl_le_c (rfl) (gl_le_c (rfl) (gl_le_o (gl_le_n))))))))) (rfl)
