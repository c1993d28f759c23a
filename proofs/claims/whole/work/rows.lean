section
-- ===== PART A: goes FIRST, ahead of the names: the tables' words, and 'selects' of the private methods out of them =====
/-- a private method of a class that the tables say can be made, by its rows of tables_1 -/
def lw_okq (q : MethodName × Nat) : Prop := (q.1.cls ≠ "java/lang/invoke/MethodHandle" ∧ q.1.cls ≠ "java/lang/invoke/VarHandle") ∧ Cond.instantiable q.1.cls q.2 ∈ tables_1 ∧ Cond.privateMethod q.1 ∈ tables_1 ∧ Cond.instanceMethod q.1 ∈ tables_1
theorem lw_p0 : lw_okq (⟨"GoalLifts", "allThereInWithout", "(I)I"⟩, 3) := ⟨⟨by decide +kernel, by decide +kernel⟩, List.mem_of_getElem? (i := 11) (by decide +kernel), List.mem_of_getElem? (i := 429) (by decide +kernel), List.mem_of_getElem? (i := 430) (by decide +kernel)⟩
theorem lw_p1 : lw_okq (⟨"GoalLiftsModel", "acts", "()V"⟩, 5) := ⟨⟨by decide +kernel, by decide +kernel⟩, List.mem_of_getElem? (i := 433) (by decide +kernel), List.mem_of_getElem? (i := 462) (by decide +kernel), List.mem_of_getElem? (i := 463) (by decide +kernel)⟩
theorem lw_p2 : lw_okq (⟨"GoalLiftsModel", "putsCar", "(III)V"⟩, 5) := ⟨⟨by decide +kernel, by decide +kernel⟩, List.mem_of_getElem? (i := 433) (by decide +kernel), List.mem_of_getElem? (i := 466) (by decide +kernel), List.mem_of_getElem? (i := 467) (by decide +kernel)⟩
theorem lw_p3 : lw_okq (⟨"GoalLiftsModel", "isCar", "(I)Z"⟩, 5) := ⟨⟨by decide +kernel, by decide +kernel⟩, List.mem_of_getElem? (i := 433) (by decide +kernel), List.mem_of_getElem? (i := 478) (by decide +kernel), List.mem_of_getElem? (i := 479) (by decide +kernel)⟩
theorem lw_p4 : lw_okq (⟨"GoalLiftsModel", "ofCar", "(II)I"⟩, 5) := ⟨⟨by decide +kernel, by decide +kernel⟩, List.mem_of_getElem? (i := 433) (by decide +kernel), List.mem_of_getElem? (i := 482) (by decide +kernel), List.mem_of_getElem? (i := 483) (by decide +kernel)⟩
theorem lw_p5 : lw_okq (⟨"GoalLiftsModel", "many", "(II)I"⟩, 5) := ⟨⟨by decide +kernel, by decide +kernel⟩, List.mem_of_getElem? (i := 433) (by decide +kernel), List.mem_of_getElem? (i := 486) (by decide +kernel), List.mem_of_getElem? (i := 487) (by decide +kernel)⟩
theorem lw_p6 : lw_okq (⟨"GoalLiftsModel", "ofCaller", "(II)I"⟩, 5) := ⟨⟨by decide +kernel, by decide +kernel⟩, List.mem_of_getElem? (i := 433) (by decide +kernel), List.mem_of_getElem? (i := 490) (by decide +kernel), List.mem_of_getElem? (i := 491) (by decide +kernel)⟩
theorem lw_p7 : lw_okq (⟨"GoalLiftsModel", "fails", "(I)V"⟩, 5) := ⟨⟨by decide +kernel, by decide +kernel⟩, List.mem_of_getElem? (i := 433) (by decide +kernel), List.mem_of_getElem? (i := 498) (by decide +kernel), List.mem_of_getElem? (i := 499) (by decide +kernel)⟩
theorem lw_p8 : lw_okq (⟨"GoalLiftsModel", "isOut", "(II)Z"⟩, 5) := ⟨⟨by decide +kernel, by decide +kernel⟩, List.mem_of_getElem? (i := 433) (by decide +kernel), List.mem_of_getElem? (i := 502) (by decide +kernel), List.mem_of_getElem? (i := 503) (by decide +kernel)⟩
theorem lw_p9 : lw_okq (⟨"GoalLiftsModel", "puts", "(III)V"⟩, 5) := ⟨⟨by decide +kernel, by decide +kernel⟩, List.mem_of_getElem? (i := 433) (by decide +kernel), List.mem_of_getElem? (i := 506) (by decide +kernel), List.mem_of_getElem? (i := 507) (by decide +kernel)⟩
theorem lw_p10 : lw_okq (⟨"GoalLiftsModel", "inAll", "(I)I"⟩, 5) := ⟨⟨by decide +kernel, by decide +kernel⟩, List.mem_of_getElem? (i := 433) (by decide +kernel), List.mem_of_getElem? (i := 510) (by decide +kernel), List.mem_of_getElem? (i := 511) (by decide +kernel)⟩
theorem lw_p11 : lw_okq (⟨"GoalLiftsModel", "gives", "(I)V"⟩, 5) := ⟨⟨by decide +kernel, by decide +kernel⟩, List.mem_of_getElem? (i := 433) (by decide +kernel), List.mem_of_getElem? (i := 528) (by decide +kernel), List.mem_of_getElem? (i := 529) (by decide +kernel)⟩
theorem lw_p12 : lw_okq (⟨"GoalLiftsModel", "best", "(II)I"⟩, 5) := ⟨⟨by decide +kernel, by decide +kernel⟩, List.mem_of_getElem? (i := 433) (by decide +kernel), List.mem_of_getElem? (i := 532) (by decide +kernel), List.mem_of_getElem? (i := 533) (by decide +kernel)⟩
theorem lw_p13 : lw_okq (⟨"GoalLiftsModel", "canBeGiven", "(III)Z"⟩, 5) := ⟨⟨by decide +kernel, by decide +kernel⟩, List.mem_of_getElem? (i := 433) (by decide +kernel), List.mem_of_getElem? (i := 536) (by decide +kernel), List.mem_of_getElem? (i := 537) (by decide +kernel)⟩
theorem lw_p14 : lw_okq (⟨"GoalLiftsModel", "isAwake", "(I)Z"⟩, 5) := ⟨⟨by decide +kernel, by decide +kernel⟩, List.mem_of_getElem? (i := 433) (by decide +kernel), List.mem_of_getElem? (i := 540) (by decide +kernel), List.mem_of_getElem? (i := 541) (by decide +kernel)⟩
theorem lw_p15 : lw_okq (⟨"GoalLiftsModel", "hour", "()I"⟩, 5) := ⟨⟨by decide +kernel, by decide +kernel⟩, List.mem_of_getElem? (i := 433) (by decide +kernel), List.mem_of_getElem? (i := 544) (by decide +kernel), List.mem_of_getElem? (i := 545) (by decide +kernel)⟩
def lw_privs_1 : List (MethodName × Nat) := [(⟨"GoalLifts", "allThereInWithout", "(I)I"⟩, 3), (⟨"GoalLiftsModel", "acts", "()V"⟩, 5), (⟨"GoalLiftsModel", "putsCar", "(III)V"⟩, 5), (⟨"GoalLiftsModel", "isCar", "(I)Z"⟩, 5), (⟨"GoalLiftsModel", "ofCar", "(II)I"⟩, 5), (⟨"GoalLiftsModel", "many", "(II)I"⟩, 5), (⟨"GoalLiftsModel", "ofCaller", "(II)I"⟩, 5), (⟨"GoalLiftsModel", "fails", "(I)V"⟩, 5), (⟨"GoalLiftsModel", "isOut", "(II)Z"⟩, 5), (⟨"GoalLiftsModel", "puts", "(III)V"⟩, 5), (⟨"GoalLiftsModel", "inAll", "(I)I"⟩, 5), (⟨"GoalLiftsModel", "gives", "(I)V"⟩, 5), (⟨"GoalLiftsModel", "best", "(II)I"⟩, 5), (⟨"GoalLiftsModel", "canBeGiven", "(III)Z"⟩, 5), (⟨"GoalLiftsModel", "isAwake", "(I)Z"⟩, 5), (⟨"GoalLiftsModel", "hour", "()I"⟩, 5)]
theorem lw_r1 : ∀ q ∈ lw_privs_1, lw_okq q := List.forall_mem_cons.mpr ⟨lw_p0, List.forall_mem_cons.mpr ⟨lw_p1, List.forall_mem_cons.mpr ⟨lw_p2, List.forall_mem_cons.mpr ⟨lw_p3, List.forall_mem_cons.mpr ⟨lw_p4, List.forall_mem_cons.mpr ⟨lw_p5, List.forall_mem_cons.mpr ⟨lw_p6, List.forall_mem_cons.mpr ⟨lw_p7, List.forall_mem_cons.mpr ⟨lw_p8, List.forall_mem_cons.mpr ⟨lw_p9, List.forall_mem_cons.mpr ⟨lw_p10, List.forall_mem_cons.mpr ⟨lw_p11, List.forall_mem_cons.mpr ⟨lw_p12, List.forall_mem_cons.mpr ⟨lw_p13, List.forall_mem_cons.mpr ⟨lw_p14, List.forall_mem_cons.mpr ⟨lw_p15, fun _ h => absurd h List.not_mem_nil⟩⟩⟩⟩⟩⟩⟩⟩⟩⟩⟩⟩⟩⟩⟩⟩
theorem lw_p16 : lw_okq (⟨"GoalLiftsModel", "costOf", "(III)I"⟩, 5) := ⟨⟨by decide +kernel, by decide +kernel⟩, List.mem_of_getElem? (i := 433) (by decide +kernel), List.mem_of_getElem? (i := 548) (by decide +kernel), List.mem_of_getElem? (i := 549) (by decide +kernel)⟩
theorem lw_p17 : lw_okq (⟨"GoalLiftsModel", "stops", "(I)I"⟩, 5) := ⟨⟨by decide +kernel, by decide +kernel⟩, List.mem_of_getElem? (i := 433) (by decide +kernel), List.mem_of_getElem? (i := 552) (by decide +kernel), List.mem_of_getElem? (i := 553) (by decide +kernel)⟩
theorem lw_p18 : lw_okq (⟨"GoalLiftsModel", "ticks", "()V"⟩, 5) := ⟨⟨by decide +kernel, by decide +kernel⟩, List.mem_of_getElem? (i := 433) (by decide +kernel), List.mem_of_getElem? (i := 566) (by decide +kernel), List.mem_of_getElem? (i := 567) (by decide +kernel)⟩
theorem lw_p19 : lw_okq (⟨"GoalLiftsModel", "aim", "(I)I"⟩, 5) := ⟨⟨by decide +kernel, by decide +kernel⟩, List.mem_of_getElem? (i := 433) (by decide +kernel), List.mem_of_getElem? (i := 570) (by decide +kernel), List.mem_of_getElem? (i := 571) (by decide +kernel)⟩
theorem lw_p20 : lw_okq (⟨"GoalLiftsModel", "isStop", "(I)Z"⟩, 5) := ⟨⟨by decide +kernel, by decide +kernel⟩, List.mem_of_getElem? (i := 433) (by decide +kernel), List.mem_of_getElem? (i := 574) (by decide +kernel), List.mem_of_getElem? (i := 575) (by decide +kernel)⟩
theorem lw_p21 : lw_okq (⟨"GoalLiftsModel", "isTaken", "(II)Z"⟩, 5) := ⟨⟨by decide +kernel, by decide +kernel⟩, List.mem_of_getElem? (i := 433) (by decide +kernel), List.mem_of_getElem? (i := 578) (by decide +kernel), List.mem_of_getElem? (i := 579) (by decide +kernel)⟩
theorem lw_p22 : lw_okq (⟨"GoalLiftsModel", "stopsNow", "(I)V"⟩, 5) := ⟨⟨by decide +kernel, by decide +kernel⟩, List.mem_of_getElem? (i := 433) (by decide +kernel), List.mem_of_getElem? (i := 582) (by decide +kernel), List.mem_of_getElem? (i := 583) (by decide +kernel)⟩
theorem lw_p23 : lw_okq (⟨"GoalLiftsModel", "groups", "()I"⟩, 5) := ⟨⟨by decide +kernel, by decide +kernel⟩, List.mem_of_getElem? (i := 433) (by decide +kernel), List.mem_of_getElem? (i := 594) (by decide +kernel), List.mem_of_getElem? (i := 595) (by decide +kernel)⟩
theorem lw_p24 : lw_okq (⟨"GoalLiftsModel", "isFirst", "(I)Z"⟩, 5) := ⟨⟨by decide +kernel, by decide +kernel⟩, List.mem_of_getElem? (i := 433) (by decide +kernel), List.mem_of_getElem? (i := 598) (by decide +kernel), List.mem_of_getElem? (i := 599) (by decide +kernel)⟩
theorem lw_p25 : lw_okq (⟨"GoalLiftsModel", "isOpen", "(I)Z"⟩, 5) := ⟨⟨by decide +kernel, by decide +kernel⟩, List.mem_of_getElem? (i := 433) (by decide +kernel), List.mem_of_getElem? (i := 602) (by decide +kernel), List.mem_of_getElem? (i := 603) (by decide +kernel)⟩
theorem lw_p26 : lw_okq (⟨"GoalLiftsModel", "areOne", "(II)Z"⟩, 5) := ⟨⟨by decide +kernel, by decide +kernel⟩, List.mem_of_getElem? (i := 433) (by decide +kernel), List.mem_of_getElem? (i := 606) (by decide +kernel), List.mem_of_getElem? (i := 607) (by decide +kernel)⟩
theorem lw_p27 : lw_okq (⟨"GoalLiftsModel", "sumOfCars", "(II)I"⟩, 5) := ⟨⟨by decide +kernel, by decide +kernel⟩, List.mem_of_getElem? (i := 433) (by decide +kernel), List.mem_of_getElem? (i := 610) (by decide +kernel), List.mem_of_getElem? (i := 611) (by decide +kernel)⟩
theorem lw_p28 : lw_okq (⟨"GoalLiftsModel", "isCaller", "(I)Z"⟩, 5) := ⟨⟨by decide +kernel, by decide +kernel⟩, List.mem_of_getElem? (i := 433) (by decide +kernel), List.mem_of_getElem? (i := 622) (by decide +kernel), List.mem_of_getElem? (i := 623) (by decide +kernel)⟩
theorem lw_p29 : lw_okq (⟨"GoalLiftsModel", "waited", "(I)I"⟩, 5) := ⟨⟨by decide +kernel, by decide +kernel⟩, List.mem_of_getElem? (i := 433) (by decide +kernel), List.mem_of_getElem? (i := 649) (by decide +kernel), List.mem_of_getElem? (i := 650) (by decide +kernel)⟩
theorem lw_p30 : lw_okq (⟨"GoalLiftsModel", "allThere", "()I"⟩, 5) := ⟨⟨by decide +kernel, by decide +kernel⟩, List.mem_of_getElem? (i := 433) (by decide +kernel), List.mem_of_getElem? (i := 657) (by decide +kernel), List.mem_of_getElem? (i := 658) (by decide +kernel)⟩
def lw_privs_2 : List (MethodName × Nat) := [(⟨"GoalLiftsModel", "costOf", "(III)I"⟩, 5), (⟨"GoalLiftsModel", "stops", "(I)I"⟩, 5), (⟨"GoalLiftsModel", "ticks", "()V"⟩, 5), (⟨"GoalLiftsModel", "aim", "(I)I"⟩, 5), (⟨"GoalLiftsModel", "isStop", "(I)Z"⟩, 5), (⟨"GoalLiftsModel", "isTaken", "(II)Z"⟩, 5), (⟨"GoalLiftsModel", "stopsNow", "(I)V"⟩, 5), (⟨"GoalLiftsModel", "groups", "()I"⟩, 5), (⟨"GoalLiftsModel", "isFirst", "(I)Z"⟩, 5), (⟨"GoalLiftsModel", "isOpen", "(I)Z"⟩, 5), (⟨"GoalLiftsModel", "areOne", "(II)Z"⟩, 5), (⟨"GoalLiftsModel", "sumOfCars", "(II)I"⟩, 5), (⟨"GoalLiftsModel", "isCaller", "(I)Z"⟩, 5), (⟨"GoalLiftsModel", "waited", "(I)I"⟩, 5), (⟨"GoalLiftsModel", "allThere", "()I"⟩, 5)]
theorem lw_r2 : ∀ q ∈ lw_privs_2, lw_okq q := List.forall_mem_cons.mpr ⟨lw_p16, List.forall_mem_cons.mpr ⟨lw_p17, List.forall_mem_cons.mpr ⟨lw_p18, List.forall_mem_cons.mpr ⟨lw_p19, List.forall_mem_cons.mpr ⟨lw_p20, List.forall_mem_cons.mpr ⟨lw_p21, List.forall_mem_cons.mpr ⟨lw_p22, List.forall_mem_cons.mpr ⟨lw_p23, List.forall_mem_cons.mpr ⟨lw_p24, List.forall_mem_cons.mpr ⟨lw_p25, List.forall_mem_cons.mpr ⟨lw_p26, List.forall_mem_cons.mpr ⟨lw_p27, List.forall_mem_cons.mpr ⟨lw_p28, List.forall_mem_cons.mpr ⟨lw_p29, List.forall_mem_cons.mpr ⟨lw_p30, fun _ h => absurd h List.not_mem_nil⟩⟩⟩⟩⟩⟩⟩⟩⟩⟩⟩⟩⟩⟩⟩
def lw_privs : List (MethodName × Nat) := lw_privs_1 ++ (lw_privs_2)
def lw_tbl : List Cond := k2_sels lw_privs ++ tables_1
theorem lw_privs_ok : ∀ q ∈ lw_privs, lw_okq q := by
  show ∀ q ∈ lw_privs_1 ++ (lw_privs_2), lw_okq q
  exact List.forall_mem_append.mpr ⟨lw_r1, lw_r2⟩
-- ===== end of PART A; then your names; then what follows =====
end
section
/-! ===== BEGIN words of one list among another's, by their places ===== -/
theorem goodIn_r {big : List Cond} (ws : List Cond) (ps : List Nat) (hp : ws = ps.filterMap (fun i => big[i]?)) (h : ws.all goodWord = true) : GoodIn big ws := by
  intro w hw
  have h1 := List.all_eq_true.mp h w hw
  rw [hp] at hw
  obtain ⟨i, -, hi⟩ := List.mem_filterMap.mp hw
  have hm : w ∈ big := by first | exact List.mem_of_getElem? hi | exact List.getElem?_mem hi
  exact ⟨hm, good_of_word h1⟩
theorem goodIn_app {big a b : List Cond} (ha : GoodIn big a) (hb : GoodIn big b) : GoodIn big (a ++ b) := fun w h => (List.mem_append.mp h).elim (ha w) (hb w)
theorem goodIn_ca {big a b : List Cond} {c : Cond} (ha : GoodIn big (c :: a)) (hb : GoodIn big b) : GoodIn big (c :: (a ++ b)) := fun w h => (List.mem_cons.mp h).elim (fun e => ha w (List.mem_cons.mpr (Or.inl e))) (fun h => (List.mem_append.mp h).elim (fun h => ha w (List.mem_cons.mpr (Or.inr h))) (hb w))
theorem goodIn_sub {big ws : List Cond} (hm : ∀ w ∈ ws, w ∈ big) (h : ws.all goodWord = true) : GoodIn big ws := fun w hw => ⟨hm w hw, good_of_word (List.all_eq_true.mp h w hw)⟩
/-! ===== END ===== -/

/-! ===== BEGIN printed: names, fields, word lists, decode rows ===== -/
def RX0 : String := "GoalLifts$Callers"
def TX0 : u_T := fun k => match k with
  | 0 => ("GoalLifts$Callers", "count", "I", false)
  | 1 => ("GoalLifts$Callers", "floor", "[I", true)
  | 2 => ("GoalLifts$Callers", "goal", "[I", true)
  | 3 => ("GoalLifts$Callers", "phase", "[I", true)
  | 4 => ("GoalLifts$Callers", "given", "[I", true)
  | 5 => ("GoalLifts$Callers", "calledAt", "[I", true)
  | 6 => ("GoalLifts$Callers", "rodeAt", "[I", true)
  | 7 => ("GoalLifts$Callers", "thereAt", "[I", true)
  | _ => ("GoalLifts$Callers", "timesGiven", "[I", true)
def tyX0 : Nat → FieldType := fun k => match k with
  | 0 => .int
  | 1 => .array .int
  | 2 => .array .int
  | 3 => .array .int
  | 4 => .array .int
  | 5 => .array .int
  | 6 => .array .int
  | 7 => .array .int
  | _ => .array .int
abbrev wsX00 : List Cond := u_ws RX0 TX0 9
theorem nmX0 : ∀ a, a < 9 → ∀ b, b < 9 → a ≠ b → (TX0 a).2.1 ≠ (TX0 b).2.1 := by decide +kernel
theorem tyX0_ok : ∀ k, k < 9 → parseFieldDescriptor (TX0 k).2.2.1 = some (tyX0 k) := by decide +kernel
abbrev cX0_init : ByteArray := prog_2_method_1_code
def yX0_init : MethodName := ⟨RX0, "<init>", "()V"⟩
abbrev cX0_copyFrom : ByteArray := prog_2_method_2_code
def yX0_copyFrom : MethodName := ⟨RX0, "copyFrom", "(LGoalLifts$Callers;)V"⟩
abbrev cX0_has : ByteArray := prog_2_method_3_code
def yX0_has : MethodName := ⟨RX0, "has", "(I)Z"⟩
abbrev cX0_add : ByteArray := prog_2_method_4_code
def yX0_add : MethodName := ⟨RX0, "add", "(III)I"⟩
abbrev cX0_give : ByteArray := prog_2_method_5_code
def yX0_give : MethodName := ⟨RX0, "give", "(II)V"⟩
abbrev cX0_rides : ByteArray := prog_2_method_6_code
def yX0_rides : MethodName := ⟨RX0, "rides", "(II)Z"⟩
abbrev cX0_waitsFor : ByteArray := prog_2_method_7_code
def yX0_waitsFor : MethodName := ⟨RX0, "waitsFor", "(II)Z"⟩
abbrev cX0_numberIn : ByteArray := prog_2_method_8_code
def yX0_numberIn : MethodName := ⟨RX0, "numberIn", "(I)I"⟩
abbrev cX0_numberOf : ByteArray := prog_2_method_9_code
def yX0_numberOf : MethodName := ⟨RX0, "numberOf", "(II)I"⟩
abbrev cX0_numberWith : ByteArray := prog_2_method_10_code
def yX0_numberWith : MethodName := ⟨RX0, "numberWith", "(I)I"⟩
abbrev cX0_stopsOf : ByteArray := prog_2_method_11_code
def yX0_stopsOf : MethodName := ⟨RX0, "stopsOf", "(I)I"⟩
abbrev cX0_aimOf : ByteArray := prog_2_method_12_code
def yX0_aimOf : MethodName := ⟨RX0, "aimOf", "(II)I"⟩
abbrev cX0_isNearer : ByteArray := prog_2_method_13_code
def yX0_isNearer : MethodName := ⟨RX0, "isNearer", "(III)Z"⟩
abbrev cX0_letOut : ByteArray := prog_2_method_14_code
def yX0_letOut : MethodName := ⟨RX0, "letOut", "(III)I"⟩
abbrev cX0_takeIn : ByteArray := prog_2_method_15_code
def yX0_takeIn : MethodName := ⟨RX0, "takeIn", "(IIII)I"⟩
abbrev cX0_loseCar : ByteArray := prog_2_method_16_code
def yX0_loseCar : MethodName := ⟨RX0, "loseCar", "(III)V"⟩
abbrev cX0_waitOf : ByteArray := prog_2_method_17_code
def yX0_waitOf : MethodName := ⟨RX0, "waitOf", "(II)I"⟩
abbrev cX0_isInGroup : ByteArray := prog_2_method_18_code
def yX0_isInGroup : MethodName := ⟨RX0, "isInGroup", "(I)Z"⟩
abbrev cX0_sameGroup : ByteArray := prog_2_method_19_code
def yX0_sameGroup : MethodName := ⟨RX0, "sameGroup", "(II)Z"⟩
abbrev cX0_isFirstOfGroup : ByteArray := prog_2_method_20_code
def yX0_isFirstOfGroup : MethodName := ⟨RX0, "isFirstOfGroup", "(I)Z"⟩
abbrev cX0_numberOfGroups : ByteArray := prog_2_method_21_code
def yX0_numberOfGroups : MethodName := ⟨RX0, "numberOfGroups", "()I"⟩
abbrev cX0_firstOfGroup : ByteArray := prog_2_method_22_code
def yX0_firstOfGroup : MethodName := ⟨RX0, "firstOfGroup", "(I)I"⟩
abbrev cX0_sizeOfGroup : ByteArray := prog_2_method_23_code
def yX0_sizeOfGroup : MethodName := ⟨RX0, "sizeOfGroup", "(I)I"⟩
def RX1 : String := "GoalLifts$Cars"
def TX1 : u_T := fun k => match k with
  | 0 => ("GoalLifts$Cars", "count", "I", false)
  | 1 => ("GoalLifts$Cars", "stopsMade", "I", false)
  | 2 => ("GoalLifts$Cars", "lowest", "[I", true)
  | 3 => ("GoalLifts$Cars", "highest", "[I", true)
  | 4 => ("GoalLifts$Cars", "places", "[I", true)
  | 5 => ("GoalLifts$Cars", "floor", "[I", true)
  | 6 => ("GoalLifts$Cars", "state", "[I", true)
  | _ => ("GoalLifts$Cars", "travelled", "[I", true)
def tyX1 : Nat → FieldType := fun k => match k with
  | 0 => .int
  | 1 => .int
  | 2 => .array .int
  | 3 => .array .int
  | 4 => .array .int
  | 5 => .array .int
  | 6 => .array .int
  | _ => .array .int
abbrev wsX10 : List Cond := u_ws RX1 TX1 8
theorem nmX1 : ∀ a, a < 8 → ∀ b, b < 8 → a ≠ b → (TX1 a).2.1 ≠ (TX1 b).2.1 := by decide +kernel
theorem tyX1_ok : ∀ k, k < 8 → parseFieldDescriptor (TX1 k).2.2.1 = some (tyX1 k) := by decide +kernel
abbrev cX1_init : ByteArray := prog_3_method_1_code
def yX1_init : MethodName := ⟨RX1, "<init>", "()V"⟩
abbrev cX1_copyFrom : ByteArray := prog_3_method_2_code
def yX1_copyFrom : MethodName := ⟨RX1, "copyFrom", "(LGoalLifts$Cars;)V"⟩
abbrev cX1_has : ByteArray := prog_3_method_3_code
def yX1_has : MethodName := ⟨RX1, "has", "(I)Z"⟩
abbrev cX1_add : ByteArray := prog_3_method_4_code
def yX1_add : MethodName := ⟨RX1, "add", "(III)I"⟩
abbrev cX1_serves : ByteArray := prog_3_method_5_code
def yX1_serves : MethodName := ⟨RX1, "serves", "(II)Z"⟩
abbrev cX1_travelTowards : ByteArray := prog_3_method_6_code
def yX1_travelTowards : MethodName := ⟨RX1, "travelTowards", "(II)V"⟩
abbrev cX1_numberIn : ByteArray := prog_3_method_7_code
def yX1_numberIn : MethodName := ⟨RX1, "numberIn", "(I)I"⟩
abbrev cX1_travelledByAll : ByteArray := prog_3_method_8_code
def yX1_travelledByAll : MethodName := ⟨RX1, "travelledByAll", "()I"⟩
def RX2 : String := "GoalLifts$History"
def TX2 : u_T := fun k => match k with
  | 0 => ("GoalLifts$History", "count", "I", false)
  | 1 => ("GoalLifts$History", "next", "I", false)
  | _ => ("GoalLifts$History", "states", "[LGoalLifts$House;", true)
def tyX2 : Nat → FieldType := fun k => match k with
  | 0 => .int
  | 1 => .int
  | _ => .array (.object "GoalLifts$House")
abbrev wsX20 : List Cond := u_ws RX2 TX2 3
theorem nmX2 : ∀ a, a < 3 → ∀ b, b < 3 → a ≠ b → (TX2 a).2.1 ≠ (TX2 b).2.1 := by decide +kernel
theorem tyX2_ok : ∀ k, k < 3 → parseFieldDescriptor (TX2 k).2.2.1 = some (tyX2 k) := by decide +kernel
abbrev cX2_init : ByteArray := prog_4_method_1_code
def yX2_init : MethodName := ⟨RX2, "<init>", "()V"⟩
abbrev cX2_keep : ByteArray := prog_4_method_2_code
def yX2_keep : MethodName := ⟨RX2, "keep", "(LGoalLifts$House;)V"⟩
abbrev cX2_restore : ByteArray := prog_4_method_3_code
def yX2_restore : MethodName := ⟨RX2, "restore", "(LGoalLifts$House;)V"⟩
def RX3 : String := "GoalLifts$House"
def TX3 : u_T := fun k => match k with
  | 0 => ("GoalLifts$House", "tick", "I", false)
  | 1 => ("GoalLifts$House", "awake", "[I", true)
  | 2 => ("GoalLifts$House", "cars", "LGoalLifts$Cars;", true)
  | _ => ("GoalLifts$House", "callers", "LGoalLifts$Callers;", true)
def tyX3 : Nat → FieldType := fun k => match k with
  | 0 => .int
  | 1 => .array .int
  | 2 => .object "GoalLifts$Cars"
  | _ => .object "GoalLifts$Callers"
abbrev wsX30 : List Cond := u_ws RX3 TX3 4
theorem nmX3 : ∀ a, a < 4 → ∀ b, b < 4 → a ≠ b → (TX3 a).2.1 ≠ (TX3 b).2.1 := by decide +kernel
theorem tyX3_ok : ∀ k, k < 4 → parseFieldDescriptor (TX3 k).2.2.1 = some (tyX3 k) := by decide +kernel
abbrev cX3_init : ByteArray := prog_5_method_1_code
def yX3_init : MethodName := ⟨RX3, "<init>", "()V"⟩
abbrev cX3_copyFrom : ByteArray := prog_5_method_2_code
def yX3_copyFrom : MethodName := ⟨RX3, "copyFrom", "(LGoalLifts$House;)V"⟩
abbrev cX3_hour : ByteArray := prog_5_method_3_code
def yX3_hour : MethodName := ⟨RX3, "hour", "()I"⟩
abbrev cX3_isAwake : ByteArray := prog_5_method_4_code
def yX3_isAwake : MethodName := ⟨RX3, "isAwake", "(I)Z"⟩
abbrev cX3_canBeGiven : ByteArray := prog_5_method_5_code
def yX3_canBeGiven : MethodName := ⟨RX3, "canBeGiven", "(III)Z"⟩
abbrev cX3_costOf : ByteArray := prog_5_method_6_code
def yX3_costOf : MethodName := ⟨RX3, "costOf", "(III)I"⟩
abbrev cX3_bestCar : ByteArray := prog_5_method_7_code
def yX3_bestCar : MethodName := ⟨RX3, "bestCar", "(II)I"⟩
abbrev cX3_oneTick : ByteArray := prog_5_method_8_code
def yX3_oneTick : MethodName := ⟨RX3, "oneTick", "()V"⟩
abbrev cX3_stopOrTravel : ByteArray := prog_5_method_9_code
def yX3_stopOrTravel : MethodName := ⟨RX3, "stopOrTravel", "(I)V"⟩
abbrev cX3_breakCar : ByteArray := prog_5_method_10_code
def yX3_breakCar : MethodName := ⟨RX3, "breakCar", "(I)V"⟩
def RX4 : String := "GoalLifts"
def TX4 : u_T := fun k => match k with
  | 0 => ("GoalLifts", "house", "LGoalLifts$House;", true)
  | 1 => ("GoalLifts", "forecast", "LGoalLifts$House;", true)
  | _ => ("GoalLifts", "history", "LGoalLifts$History;", true)
def tyX4 : Nat → FieldType := fun k => match k with
  | 0 => .object "GoalLifts$House"
  | 1 => .object "GoalLifts$House"
  | _ => .object "GoalLifts$History"
abbrev wsX40 : List Cond := u_ws RX4 TX4 3
theorem nmX4 : ∀ a, a < 3 → ∀ b, b < 3 → a ≠ b → (TX4 a).2.1 ≠ (TX4 b).2.1 := by decide +kernel
theorem tyX4_ok : ∀ k, k < 3 → parseFieldDescriptor (TX4 k).2.2.1 = some (tyX4 k) := by decide +kernel
abbrev cX4_init : ByteArray := prog_1_method_1_code
def yX4_init : MethodName := ⟨RX4, "<init>", "()V"⟩
abbrev cX4_addCar : ByteArray := prog_1_method_2_code
def yX4_addCar : MethodName := ⟨RX4, "addCar", "(III)I"⟩
abbrev cX4_setAwake : ByteArray := prog_1_method_3_code
def yX4_setAwake : MethodName := ⟨RX4, "setAwake", "(II)I"⟩
abbrev cX4_hold : ByteArray := prog_1_method_4_code
def yX4_hold : MethodName := ⟨RX4, "hold", "(II)I"⟩
abbrev cX4_fail : ByteArray := prog_1_method_5_code
def yX4_fail : MethodName := ⟨RX4, "fail", "(I)I"⟩
abbrev cX4_repair : ByteArray := prog_1_method_6_code
def yX4_repair : MethodName := ⟨RX4, "repair", "(I)I"⟩
abbrev cX4_call : ByteArray := prog_1_method_7_code
def yX4_call : MethodName := ⟨RX4, "call", "(II)I"⟩
abbrev cX4_pass : ByteArray := prog_1_method_8_code
def yX4_pass : MethodName := ⟨RX4, "pass", "(I)I"⟩
abbrev cX4_undo : ByteArray := prog_1_method_9_code
def yX4_undo : MethodName := ⟨RX4, "undo", "()I"⟩
abbrev cX4_count : ByteArray := prog_1_method_10_code
def yX4_count : MethodName := ⟨RX4, "count", "(I)I"⟩
abbrev cX4_car : ByteArray := prog_1_method_11_code
def yX4_car : MethodName := ⟨RX4, "car", "(II)I"⟩
abbrev cX4_caller : ByteArray := prog_1_method_12_code
def yX4_caller : MethodName := ⟨RX4, "caller", "(II)I"⟩
abbrev cX4_group : ByteArray := prog_1_method_13_code
def yX4_group : MethodName := ⟨RX4, "group", "(II)I"⟩
abbrev cX4_cost : ByteArray := prog_1_method_14_code
def yX4_cost : MethodName := ⟨RX4, "cost", "(III)I"⟩
abbrev cX4_would : ByteArray := prog_1_method_15_code
def yX4_would : MethodName := ⟨RX4, "would", "(II)I"⟩
abbrev cX4_thereIn : ByteArray := prog_1_method_16_code
def yX4_thereIn : MethodName := ⟨RX4, "thereIn", "(I)I"⟩
abbrev cX4_waits : ByteArray := prog_1_method_17_code
def yX4_waits : MethodName := ⟨RX4, "waits", "(I)I"⟩
abbrev cX4_worstCar : ByteArray := prog_1_method_18_code
def yX4_worstCar : MethodName := ⟨RX4, "worstCar", "(I)I"⟩
abbrev cX4_isFloor : ByteArray := prog_1_method_19_code
def yX4_isFloor : MethodName := ⟨RX4, "isFloor", "(I)Z"⟩
abbrev cX4_isWay : ByteArray := prog_1_method_20_code
def yX4_isWay : MethodName := ⟨RX4, "isWay", "(II)Z"⟩
abbrev cX4_allThereInWithout : ByteArray := prog_1_method_21_code
def yX4_allThereInWithout : MethodName := ⟨RX4, "allThereInWithout", "(I)I"⟩
def RX5 : String := "GoalLiftsModel"
def TX5 : u_T := fun k => match k with
  | 0 => ("GoalLiftsModel", "s", "[I", true)
  | 1 => ("GoalLiftsModel", "past", "[I", true)
  | 2 => ("GoalLiftsModel", "held", "[I", true)
  | 3 => ("GoalLiftsModel", "tried", "[I", true)
  | _ => ("GoalLiftsModel", "pasts", "I", false)
def tyX5 : Nat → FieldType := fun k => match k with
  | 0 => .array .int
  | 1 => .array .int
  | 2 => .array .int
  | 3 => .array .int
  | _ => .int
abbrev wsX50 : List Cond := u_ws RX5 TX5 5
theorem nmX5 : ∀ a, a < 5 → ∀ b, b < 5 → a ≠ b → (TX5 a).2.1 ≠ (TX5 b).2.1 := by decide +kernel
theorem tyX5_ok : ∀ k, k < 5 → parseFieldDescriptor (TX5 k).2.2.1 = some (tyX5 k) := by decide +kernel
abbrev cX5_init : ByteArray := prog_7_method_1_code
def yX5_init : MethodName := ⟨RX5, "<init>", "()V"⟩
abbrev cX5_in : ByteArray := prog_7_method_3_code
def yX5_in : MethodName := ⟨RX5, "in", "(III)Z"⟩
abbrev cX5_acts : ByteArray := prog_7_method_4_code
def yX5_acts : MethodName := ⟨RX5, "acts", "()V"⟩
abbrev cX5_copies : ByteArray := prog_7_method_5_code
def yX5_copies : MethodName := ⟨RX5, "copies", "([I[I)V"⟩
abbrev cX5_isCar : ByteArray := prog_7_method_6_code
def yX5_isCar : MethodName := ⟨RX5, "isCar", "(I)Z"⟩
abbrev cX5_isCaller : ByteArray := prog_7_method_7_code
def yX5_isCaller : MethodName := ⟨RX5, "isCaller", "(I)Z"⟩
abbrev cX5_isFloor : ByteArray := prog_7_method_8_code
def yX5_isFloor : MethodName := ⟨RX5, "isFloor", "(I)Z"⟩
abbrev cX5_ofCar : ByteArray := prog_7_method_9_code
def yX5_ofCar : MethodName := ⟨RX5, "ofCar", "(II)I"⟩
abbrev cX5_putsCar : ByteArray := prog_7_method_10_code
def yX5_putsCar : MethodName := ⟨RX5, "putsCar", "(III)V"⟩
abbrev cX5_ofCaller : ByteArray := prog_7_method_11_code
def yX5_ofCaller : MethodName := ⟨RX5, "ofCaller", "(II)I"⟩
abbrev cX5_puts : ByteArray := prog_7_method_12_code
def yX5_puts : MethodName := ⟨RX5, "puts", "(III)V"⟩
abbrev cX5_hour : ByteArray := prog_7_method_13_code
def yX5_hour : MethodName := ⟨RX5, "hour", "()I"⟩
abbrev cX5_isAwake : ByteArray := prog_7_method_14_code
def yX5_isAwake : MethodName := ⟨RX5, "isAwake", "(I)Z"⟩
abbrev cX5_many : ByteArray := prog_7_method_15_code
def yX5_many : MethodName := ⟨RX5, "many", "(II)I"⟩
abbrev cX5_inAll : ByteArray := prog_7_method_16_code
def yX5_inAll : MethodName := ⟨RX5, "inAll", "(I)I"⟩
abbrev cX5_stops : ByteArray := prog_7_method_17_code
def yX5_stops : MethodName := ⟨RX5, "stops", "(I)I"⟩
abbrev cX5_ones : ByteArray := prog_7_method_18_code
def yX5_ones : MethodName := ⟨RX5, "ones", "(I)I"⟩
abbrev cX5_far : ByteArray := prog_7_method_19_code
def yX5_far : MethodName := ⟨RX5, "far", "(II)I"⟩
abbrev cX5_canBeGiven : ByteArray := prog_7_method_20_code
def yX5_canBeGiven : MethodName := ⟨RX5, "canBeGiven", "(III)Z"⟩
abbrev cX5_costOf : ByteArray := prog_7_method_21_code
def yX5_costOf : MethodName := ⟨RX5, "costOf", "(III)I"⟩
abbrev cX5_best : ByteArray := prog_7_method_22_code
def yX5_best : MethodName := ⟨RX5, "best", "(II)I"⟩
abbrev cX5_gives : ByteArray := prog_7_method_23_code
def yX5_gives : MethodName := ⟨RX5, "gives", "(I)V"⟩
abbrev cX5_aim : ByteArray := prog_7_method_24_code
def yX5_aim : MethodName := ⟨RX5, "aim", "(I)I"⟩
abbrev cX5_isOut : ByteArray := prog_7_method_25_code
def yX5_isOut : MethodName := ⟨RX5, "isOut", "(II)Z"⟩
abbrev cX5_isTaken : ByteArray := prog_7_method_26_code
def yX5_isTaken : MethodName := ⟨RX5, "isTaken", "(II)Z"⟩
abbrev cX5_isStop : ByteArray := prog_7_method_27_code
def yX5_isStop : MethodName := ⟨RX5, "isStop", "(I)Z"⟩
abbrev cX5_stopsNow : ByteArray := prog_7_method_28_code
def yX5_stopsNow : MethodName := ⟨RX5, "stopsNow", "(I)V"⟩
abbrev cX5_ticks : ByteArray := prog_7_method_29_code
def yX5_ticks : MethodName := ⟨RX5, "ticks", "()V"⟩
abbrev cX5_fails : ByteArray := prog_7_method_30_code
def yX5_fails : MethodName := ⟨RX5, "fails", "(I)V"⟩
abbrev cX5_addCar : ByteArray := prog_7_method_31_code
def yX5_addCar : MethodName := ⟨RX5, "addCar", "(III)I"⟩
abbrev cX5_setAwake : ByteArray := prog_7_method_32_code
def yX5_setAwake : MethodName := ⟨RX5, "setAwake", "(II)I"⟩
abbrev cX5_hold : ByteArray := prog_7_method_33_code
def yX5_hold : MethodName := ⟨RX5, "hold", "(II)I"⟩
abbrev cX5_fail : ByteArray := prog_7_method_34_code
def yX5_fail : MethodName := ⟨RX5, "fail", "(I)I"⟩
abbrev cX5_repair : ByteArray := prog_7_method_35_code
def yX5_repair : MethodName := ⟨RX5, "repair", "(I)I"⟩
abbrev cX5_isWay : ByteArray := prog_7_method_36_code
def yX5_isWay : MethodName := ⟨RX5, "isWay", "(II)Z"⟩
abbrev cX5_call : ByteArray := prog_7_method_37_code
def yX5_call : MethodName := ⟨RX5, "call", "(II)I"⟩
abbrev cX5_pass : ByteArray := prog_7_method_38_code
def yX5_pass : MethodName := ⟨RX5, "pass", "(I)I"⟩
abbrev cX5_undo : ByteArray := prog_7_method_39_code
def yX5_undo : MethodName := ⟨RX5, "undo", "()I"⟩
abbrev cX5_isOpen : ByteArray := prog_7_method_40_code
def yX5_isOpen : MethodName := ⟨RX5, "isOpen", "(I)Z"⟩
abbrev cX5_isFirst : ByteArray := prog_7_method_41_code
def yX5_isFirst : MethodName := ⟨RX5, "isFirst", "(I)Z"⟩
abbrev cX5_areOne : ByteArray := prog_7_method_42_code
def yX5_areOne : MethodName := ⟨RX5, "areOne", "(II)Z"⟩
abbrev cX5_groups : ByteArray := prog_7_method_43_code
def yX5_groups : MethodName := ⟨RX5, "groups", "()I"⟩
abbrev cX5_sumOfCars : ByteArray := prog_7_method_44_code
def yX5_sumOfCars : MethodName := ⟨RX5, "sumOfCars", "(II)I"⟩
abbrev cX5_count : ByteArray := prog_7_method_45_code
def yX5_count : MethodName := ⟨RX5, "count", "(I)I"⟩
abbrev cX5_car : ByteArray := prog_7_method_46_code
def yX5_car : MethodName := ⟨RX5, "car", "(II)I"⟩
abbrev cX5_caller : ByteArray := prog_7_method_47_code
def yX5_caller : MethodName := ⟨RX5, "caller", "(II)I"⟩
abbrev cX5_group : ByteArray := prog_7_method_48_code
def yX5_group : MethodName := ⟨RX5, "group", "(II)I"⟩
abbrev cX5_cost : ByteArray := prog_7_method_49_code
def yX5_cost : MethodName := ⟨RX5, "cost", "(III)I"⟩
abbrev cX5_would : ByteArray := prog_7_method_50_code
def yX5_would : MethodName := ⟨RX5, "would", "(II)I"⟩
abbrev cX5_thereIn : ByteArray := prog_7_method_51_code
def yX5_thereIn : MethodName := ⟨RX5, "thereIn", "(I)I"⟩
abbrev cX5_waited : ByteArray := prog_7_method_52_code
def yX5_waited : MethodName := ⟨RX5, "waited", "(I)I"⟩
abbrev cX5_waits : ByteArray := prog_7_method_53_code
def yX5_waits : MethodName := ⟨RX5, "waits", "(I)I"⟩
abbrev cX5_allThere : ByteArray := prog_7_method_54_code
def yX5_allThere : MethodName := ⟨RX5, "allThere", "()I"⟩
abbrev cX5_worstCar : ByteArray := prog_7_method_55_code
def yX5_worstCar : MethodName := ⟨RX5, "worstCar", "(I)I"⟩
def RJ6 : String := "java/lang/Integer"
def TJ6 : u_T := fun k => match k with
  | _ => ("", "", "", false)
def tyJ6 : Nat → FieldType := fun k => match k with
  | _ => .int
abbrev wsJ60 : List Cond := u_ws RJ6 TJ6 0
theorem nmJ6 : ∀ a, a < 0 → ∀ b, b < 0 → a ≠ b → (TJ6 a).2.1 ≠ (TJ6 b).2.1 := by decide +kernel
theorem tyJ6_ok : ∀ k, k < 0 → parseFieldDescriptor (TJ6 k).2.2.1 = some (tyJ6 k) := by decide +kernel
abbrev cJ6_bitCount_0f7a4 : ByteArray := prog_8_method_49_code
def yJ6_bitCount_0f7a4 : MethodName := ⟨RJ6, "bitCount", "(I)I"⟩
def RJ9 : String := "java/lang/Math"
def TJ9 : u_T := fun k => match k with
  | _ => ("", "", "", false)
def tyJ9 : Nat → FieldType := fun k => match k with
  | _ => .int
abbrev wsJ90 : List Cond := u_ws RJ9 TJ9 0
theorem nmJ9 : ∀ a, a < 0 → ∀ b, b < 0 → a ≠ b → (TJ9 a).2.1 ≠ (TJ9 b).2.1 := by decide +kernel
theorem tyJ9_ok : ∀ k, k < 0 → parseFieldDescriptor (TJ9 k).2.2.1 = some (tyJ9 k) := by decide +kernel
abbrev cJ9_floorMod_7cf53 : ByteArray := prog_9_method_50_code
def yJ9_floorMod_7cf53 : MethodName := ⟨RJ9, "floorMod", "(II)I"⟩
abbrev cJ9_abs_0f7a4 : ByteArray := prog_9_method_59_code
def yJ9_abs_0f7a4 : MethodName := ⟨RJ9, "abs", "(I)I"⟩
abbrev cJ9_min_7cf53 : ByteArray := prog_9_method_69_code
def yJ9_min_7cf53 : MethodName := ⟨RJ9, "min", "(II)I"⟩
def RJ10 : String := "java/lang/System"
def TJ10 : u_T := fun k => match k with
  | _ => ("", "", "", false)
def tyJ10 : Nat → FieldType := fun k => match k with
  | _ => .int
abbrev wsJ100 : List Cond := u_ws RJ10 TJ10 0
theorem nmJ10 : ∀ a, a < 0 → ∀ b, b < 0 → a ≠ b → (TJ10 a).2.1 ≠ (TJ10 b).2.1 := by decide +kernel
theorem tyJ10_ok : ∀ k, k < 0 → parseFieldDescriptor (TJ10 k).2.2.1 = some (tyJ10 k) := by decide +kernel
def RL : String := "GoalLiftsLaw"
abbrev cL_law : ByteArray := code
def yL_law : MethodName := ⟨RL, "law", "([I)Z"⟩
def wsX0_init : List Cond := .code yX0_init cX0_init 1 none :: ([.methodLink RX0 3 objectInit, .instanceMethod objectInit, .code objectInit ⟨#[0xb1]⟩ 1 none, .arrayClass .int, .fieldLink RX0 9 "GoalLifts$Callers" "floor" "[I", .fieldLink RX0 15 "GoalLifts$Callers" "goal" "[I", .fieldLink RX0 18 "GoalLifts$Callers" "phase" "[I", .fieldLink RX0 21 "GoalLifts$Callers" "given" "[I", .fieldLink RX0 24 "GoalLifts$Callers" "calledAt" "[I", .fieldLink RX0 27 "GoalLifts$Callers" "rodeAt" "[I", .fieldLink RX0 30 "GoalLifts$Callers" "thereAt" "[I", .fieldLink RX0 33 "GoalLifts$Callers" "timesGiven" "[I"] ++ wsX00)
def wsX0_copyFrom : List Cond := .code yX0_copyFrom cX0_copyFrom 2 none :: ([.fieldLink RX0 36 "GoalLifts$Callers" "count" "I", .fieldLink RX0 9 "GoalLifts$Callers" "floor" "[I", .methodLink RX0 40 arraycopyName, .native arraycopyName, .static arraycopyName, .initialized "java/lang/System", .fieldLink RX0 15 "GoalLifts$Callers" "goal" "[I", .fieldLink RX0 18 "GoalLifts$Callers" "phase" "[I", .fieldLink RX0 21 "GoalLifts$Callers" "given" "[I", .fieldLink RX0 24 "GoalLifts$Callers" "calledAt" "[I", .fieldLink RX0 27 "GoalLifts$Callers" "rodeAt" "[I", .fieldLink RX0 30 "GoalLifts$Callers" "thereAt" "[I", .fieldLink RX0 33 "GoalLifts$Callers" "timesGiven" "[I"] ++ wsX00)
def wsX0_has : List Cond := .code yX0_has cX0_has 2 (some .boolean) :: ([.fieldLink RX0 36 "GoalLifts$Callers" "count" "I"] ++ wsX00)
def wsX0_add : List Cond := .code yX0_add cX0_add 5 (some .int) :: ([.fieldLink RX0 36 "GoalLifts$Callers" "count" "I", .fieldLink RX0 9 "GoalLifts$Callers" "floor" "[I", .fieldLink RX0 15 "GoalLifts$Callers" "goal" "[I", .fieldLink RX0 18 "GoalLifts$Callers" "phase" "[I", .fieldLink RX0 21 "GoalLifts$Callers" "given" "[I", .fieldLink RX0 24 "GoalLifts$Callers" "calledAt" "[I", .fieldLink RX0 27 "GoalLifts$Callers" "rodeAt" "[I", .fieldLink RX0 30 "GoalLifts$Callers" "thereAt" "[I", .fieldLink RX0 33 "GoalLifts$Callers" "timesGiven" "[I"] ++ wsX00)
def wsX0_give : List Cond := .code yX0_give cX0_give 3 none :: ([.fieldLink RX0 18 "GoalLifts$Callers" "phase" "[I", .fieldLink RX0 21 "GoalLifts$Callers" "given" "[I", .fieldLink RX0 33 "GoalLifts$Callers" "timesGiven" "[I", .methodLink RX0 46 yX0_has, .instanceMethod yX0_has, .selects RX0 yX0_has yX0_has, .initialized RX0, .code yX0_has cX0_has 2 (some .boolean), .fieldLink RX0 36 "GoalLifts$Callers" "count" "I"] ++ wsX00)
def wsX0_rides : List Cond := .code yX0_rides cX0_rides 3 (some .boolean) :: ([.fieldLink RX0 18 "GoalLifts$Callers" "phase" "[I", .fieldLink RX0 21 "GoalLifts$Callers" "given" "[I"] ++ wsX00)
def wsX0_waitsFor : List Cond := .code yX0_waitsFor cX0_waitsFor 3 (some .boolean) :: ([.fieldLink RX0 18 "GoalLifts$Callers" "phase" "[I", .fieldLink RX0 21 "GoalLifts$Callers" "given" "[I"] ++ wsX00)
def wsX0_numberIn : List Cond := .code yX0_numberIn cX0_numberIn 4 (some .int) :: ([.fieldLink RX0 36 "GoalLifts$Callers" "count" "I", .fieldLink RX0 18 "GoalLifts$Callers" "phase" "[I"] ++ wsX00)
def wsX0_numberOf : List Cond := .code yX0_numberOf cX0_numberOf 5 (some .int) :: ([.fieldLink RX0 36 "GoalLifts$Callers" "count" "I", .fieldLink RX0 18 "GoalLifts$Callers" "phase" "[I", .fieldLink RX0 21 "GoalLifts$Callers" "given" "[I"] ++ wsX00)
def wsX0_numberWith : List Cond := .code yX0_numberWith cX0_numberWith 2 (some .int) :: ([.methodLink RX0 50 yX0_numberOf, .instanceMethod yX0_numberOf, .selects RX0 yX0_numberOf yX0_numberOf, .initialized RX0, .code yX0_numberOf cX0_numberOf 5 (some .int), .fieldLink RX0 36 "GoalLifts$Callers" "count" "I", .fieldLink RX0 18 "GoalLifts$Callers" "phase" "[I", .fieldLink RX0 21 "GoalLifts$Callers" "given" "[I"] ++ wsX00)
def wsX0_stopsOf : List Cond := .code yX0_stopsOf cX0_stopsOf 4 (some .int) :: ([.fieldLink RX0 36 "GoalLifts$Callers" "count" "I", .fieldLink RX0 9 "GoalLifts$Callers" "floor" "[I", .fieldLink RX0 15 "GoalLifts$Callers" "goal" "[I", .methodLink RX0 54 yX0_waitsFor, .instanceMethod yX0_waitsFor, .selects RX0 yX0_waitsFor yX0_waitsFor, .initialized RX0, .code yX0_waitsFor cX0_waitsFor 3 (some .boolean), .fieldLink RX0 18 "GoalLifts$Callers" "phase" "[I", .fieldLink RX0 21 "GoalLifts$Callers" "given" "[I", .methodLink RX0 58 yX0_rides, .instanceMethod yX0_rides, .selects RX0 yX0_rides yX0_rides, .code yX0_rides cX0_rides 3 (some .boolean)] ++ wsX00)
def wsX0_isNearer : List Cond := .code yX0_isNearer cX0_isNearer 5 (some .boolean) :: ([.methodLink RX0 65 Lib.Math.abs.name, .static Lib.Math.abs.name, .initialized "java/lang/Math", .code Lib.Math.abs.name Lib.Math.abs.code 1 (some .int)])
def wsX0_aimOf : List Cond := .code yX0_aimOf cX0_aimOf 6 (some .int) :: ([.fieldLink RX0 36 "GoalLifts$Callers" "count" "I", .fieldLink RX0 15 "GoalLifts$Callers" "goal" "[I", .fieldLink RX0 9 "GoalLifts$Callers" "floor" "[I", .methodLink RX0 58 yX0_rides, .instanceMethod yX0_rides, .selects RX0 yX0_rides yX0_rides, .initialized RX0, .code yX0_rides cX0_rides 3 (some .boolean), .fieldLink RX0 18 "GoalLifts$Callers" "phase" "[I", .fieldLink RX0 21 "GoalLifts$Callers" "given" "[I", .methodLink RX0 61 yX0_isNearer, .static yX0_isNearer, .code yX0_isNearer cX0_isNearer 5 (some .boolean), .methodLink RX0 65 Lib.Math.abs.name, .static Lib.Math.abs.name, .initialized "java/lang/Math", .code Lib.Math.abs.name Lib.Math.abs.code 1 (some .int), .methodLink RX0 54 yX0_waitsFor, .instanceMethod yX0_waitsFor, .selects RX0 yX0_waitsFor yX0_waitsFor, .code yX0_waitsFor cX0_waitsFor 3 (some .boolean)] ++ wsX00)
def wsX0_letOut : List Cond := .code yX0_letOut cX0_letOut 6 (some .int) :: ([.fieldLink RX0 36 "GoalLifts$Callers" "count" "I", .fieldLink RX0 15 "GoalLifts$Callers" "goal" "[I", .fieldLink RX0 18 "GoalLifts$Callers" "phase" "[I", .fieldLink RX0 30 "GoalLifts$Callers" "thereAt" "[I", .methodLink RX0 58 yX0_rides, .instanceMethod yX0_rides, .selects RX0 yX0_rides yX0_rides, .initialized RX0, .code yX0_rides cX0_rides 3 (some .boolean), .fieldLink RX0 21 "GoalLifts$Callers" "given" "[I"] ++ wsX00)
def wsX0_takeIn : List Cond := .code yX0_takeIn cX0_takeIn 8 (some .int) :: ([.fieldLink RX0 36 "GoalLifts$Callers" "count" "I", .fieldLink RX0 9 "GoalLifts$Callers" "floor" "[I", .fieldLink RX0 18 "GoalLifts$Callers" "phase" "[I", .fieldLink RX0 27 "GoalLifts$Callers" "rodeAt" "[I", .methodLink RX0 50 yX0_numberOf, .instanceMethod yX0_numberOf, .selects RX0 yX0_numberOf yX0_numberOf, .initialized RX0, .code yX0_numberOf cX0_numberOf 5 (some .int), .fieldLink RX0 21 "GoalLifts$Callers" "given" "[I", .methodLink RX0 54 yX0_waitsFor, .instanceMethod yX0_waitsFor, .selects RX0 yX0_waitsFor yX0_waitsFor, .code yX0_waitsFor cX0_waitsFor 3 (some .boolean)] ++ wsX00)
def wsX0_loseCar : List Cond := .code yX0_loseCar cX0_loseCar 6 none :: ([.fieldLink RX0 36 "GoalLifts$Callers" "count" "I", .fieldLink RX0 9 "GoalLifts$Callers" "floor" "[I", .fieldLink RX0 15 "GoalLifts$Callers" "goal" "[I", .fieldLink RX0 18 "GoalLifts$Callers" "phase" "[I", .fieldLink RX0 30 "GoalLifts$Callers" "thereAt" "[I", .fieldLink RX0 21 "GoalLifts$Callers" "given" "[I", .methodLink RX0 58 yX0_rides, .instanceMethod yX0_rides, .selects RX0 yX0_rides yX0_rides, .initialized RX0, .code yX0_rides cX0_rides 3 (some .boolean), .methodLink RX0 54 yX0_waitsFor, .instanceMethod yX0_waitsFor, .selects RX0 yX0_waitsFor yX0_waitsFor, .code yX0_waitsFor cX0_waitsFor 3 (some .boolean)] ++ wsX00)
def wsX0_waitOf : List Cond := .code yX0_waitOf cX0_waitOf 4 (some .int) :: ([.fieldLink RX0 18 "GoalLifts$Callers" "phase" "[I", .fieldLink RX0 27 "GoalLifts$Callers" "rodeAt" "[I", .fieldLink RX0 24 "GoalLifts$Callers" "calledAt" "[I"] ++ wsX00)
def wsX0_isInGroup : List Cond := .code yX0_isInGroup cX0_isInGroup 2 (some .boolean) :: ([.fieldLink RX0 18 "GoalLifts$Callers" "phase" "[I"] ++ wsX00)
def wsX0_sameGroup : List Cond := .code yX0_sameGroup cX0_sameGroup 3 (some .boolean) :: ([.fieldLink RX0 9 "GoalLifts$Callers" "floor" "[I", .fieldLink RX0 15 "GoalLifts$Callers" "goal" "[I", .methodLink RX0 71 yX0_isInGroup, .instanceMethod yX0_isInGroup, .selects RX0 yX0_isInGroup yX0_isInGroup, .initialized RX0, .code yX0_isInGroup cX0_isInGroup 2 (some .boolean), .fieldLink RX0 18 "GoalLifts$Callers" "phase" "[I"] ++ wsX00)
def wsX0_isFirstOfGroup : List Cond := .code yX0_isFirstOfGroup cX0_isFirstOfGroup 3 (some .boolean) :: ([.methodLink RX0 74 yX0_sameGroup, .instanceMethod yX0_sameGroup, .selects RX0 yX0_sameGroup yX0_sameGroup, .initialized RX0, .code yX0_sameGroup cX0_sameGroup 3 (some .boolean), .fieldLink RX0 9 "GoalLifts$Callers" "floor" "[I", .fieldLink RX0 15 "GoalLifts$Callers" "goal" "[I", .methodLink RX0 71 yX0_isInGroup, .instanceMethod yX0_isInGroup, .selects RX0 yX0_isInGroup yX0_isInGroup, .code yX0_isInGroup cX0_isInGroup 2 (some .boolean), .fieldLink RX0 18 "GoalLifts$Callers" "phase" "[I"] ++ wsX00)
def wsX0_numberOfGroups : List Cond := .code yX0_numberOfGroups cX0_numberOfGroups 3 (some .int) :: ([.fieldLink RX0 36 "GoalLifts$Callers" "count" "I", .methodLink RX0 77 yX0_isFirstOfGroup, .instanceMethod yX0_isFirstOfGroup, .selects RX0 yX0_isFirstOfGroup yX0_isFirstOfGroup, .initialized RX0, .code yX0_isFirstOfGroup cX0_isFirstOfGroup 3 (some .boolean), .methodLink RX0 74 yX0_sameGroup, .instanceMethod yX0_sameGroup, .selects RX0 yX0_sameGroup yX0_sameGroup, .code yX0_sameGroup cX0_sameGroup 3 (some .boolean), .fieldLink RX0 9 "GoalLifts$Callers" "floor" "[I", .fieldLink RX0 15 "GoalLifts$Callers" "goal" "[I", .methodLink RX0 71 yX0_isInGroup, .instanceMethod yX0_isInGroup, .selects RX0 yX0_isInGroup yX0_isInGroup, .code yX0_isInGroup cX0_isInGroup 2 (some .boolean), .fieldLink RX0 18 "GoalLifts$Callers" "phase" "[I"] ++ wsX00)
def wsX0_firstOfGroup : List Cond := .code yX0_firstOfGroup cX0_firstOfGroup 4 (some .int) :: ([.fieldLink RX0 36 "GoalLifts$Callers" "count" "I", .methodLink RX0 77 yX0_isFirstOfGroup, .instanceMethod yX0_isFirstOfGroup, .selects RX0 yX0_isFirstOfGroup yX0_isFirstOfGroup, .initialized RX0, .code yX0_isFirstOfGroup cX0_isFirstOfGroup 3 (some .boolean), .methodLink RX0 74 yX0_sameGroup, .instanceMethod yX0_sameGroup, .selects RX0 yX0_sameGroup yX0_sameGroup, .code yX0_sameGroup cX0_sameGroup 3 (some .boolean), .fieldLink RX0 9 "GoalLifts$Callers" "floor" "[I", .fieldLink RX0 15 "GoalLifts$Callers" "goal" "[I", .methodLink RX0 71 yX0_isInGroup, .instanceMethod yX0_isInGroup, .selects RX0 yX0_isInGroup yX0_isInGroup, .code yX0_isInGroup cX0_isInGroup 2 (some .boolean), .fieldLink RX0 18 "GoalLifts$Callers" "phase" "[I"] ++ wsX00)
def wsX0_sizeOfGroup : List Cond := .code yX0_sizeOfGroup cX0_sizeOfGroup 4 (some .int) :: ([.fieldLink RX0 36 "GoalLifts$Callers" "count" "I", .methodLink RX0 74 yX0_sameGroup, .instanceMethod yX0_sameGroup, .selects RX0 yX0_sameGroup yX0_sameGroup, .initialized RX0, .code yX0_sameGroup cX0_sameGroup 3 (some .boolean), .fieldLink RX0 9 "GoalLifts$Callers" "floor" "[I", .fieldLink RX0 15 "GoalLifts$Callers" "goal" "[I", .methodLink RX0 71 yX0_isInGroup, .instanceMethod yX0_isInGroup, .selects RX0 yX0_isInGroup yX0_isInGroup, .code yX0_isInGroup cX0_isInGroup 2 (some .boolean), .fieldLink RX0 18 "GoalLifts$Callers" "phase" "[I"] ++ wsX00)
def wsX1_init : List Cond := .code yX1_init cX1_init 1 none :: ([.methodLink RX1 3 objectInit, .instanceMethod objectInit, .code objectInit ⟨#[0xb1]⟩ 1 none, .arrayClass .int, .fieldLink RX1 9 "GoalLifts$Cars" "lowest" "[I", .fieldLink RX1 15 "GoalLifts$Cars" "highest" "[I", .fieldLink RX1 18 "GoalLifts$Cars" "places" "[I", .fieldLink RX1 21 "GoalLifts$Cars" "floor" "[I", .fieldLink RX1 24 "GoalLifts$Cars" "state" "[I", .fieldLink RX1 27 "GoalLifts$Cars" "travelled" "[I"] ++ wsX10)
def wsX1_copyFrom : List Cond := .code yX1_copyFrom cX1_copyFrom 2 none :: ([.fieldLink RX1 30 "GoalLifts$Cars" "count" "I", .fieldLink RX1 34 "GoalLifts$Cars" "stopsMade" "I", .fieldLink RX1 9 "GoalLifts$Cars" "lowest" "[I", .methodLink RX1 37 arraycopyName, .native arraycopyName, .static arraycopyName, .initialized "java/lang/System", .fieldLink RX1 15 "GoalLifts$Cars" "highest" "[I", .fieldLink RX1 18 "GoalLifts$Cars" "places" "[I", .fieldLink RX1 21 "GoalLifts$Cars" "floor" "[I", .fieldLink RX1 24 "GoalLifts$Cars" "state" "[I", .fieldLink RX1 27 "GoalLifts$Cars" "travelled" "[I"] ++ wsX10)
def wsX1_has : List Cond := .code yX1_has cX1_has 2 (some .boolean) :: ([.fieldLink RX1 30 "GoalLifts$Cars" "count" "I"] ++ wsX10)
def wsX1_add : List Cond := .code yX1_add cX1_add 5 (some .int) :: ([.fieldLink RX1 30 "GoalLifts$Cars" "count" "I", .fieldLink RX1 9 "GoalLifts$Cars" "lowest" "[I", .fieldLink RX1 15 "GoalLifts$Cars" "highest" "[I", .fieldLink RX1 18 "GoalLifts$Cars" "places" "[I", .fieldLink RX1 21 "GoalLifts$Cars" "floor" "[I", .fieldLink RX1 24 "GoalLifts$Cars" "state" "[I", .fieldLink RX1 27 "GoalLifts$Cars" "travelled" "[I"] ++ wsX10)
def wsX1_serves : List Cond := .code yX1_serves cX1_serves 3 (some .boolean) :: ([.fieldLink RX1 9 "GoalLifts$Cars" "lowest" "[I", .fieldLink RX1 15 "GoalLifts$Cars" "highest" "[I"] ++ wsX10)
def wsX1_travelTowards : List Cond := .code yX1_travelTowards cX1_travelTowards 3 none :: ([.fieldLink RX1 21 "GoalLifts$Cars" "floor" "[I", .fieldLink RX1 27 "GoalLifts$Cars" "travelled" "[I"] ++ wsX10)
def wsX1_numberIn : List Cond := .code yX1_numberIn cX1_numberIn 4 (some .int) :: ([.fieldLink RX1 30 "GoalLifts$Cars" "count" "I", .fieldLink RX1 24 "GoalLifts$Cars" "state" "[I"] ++ wsX10)
def wsX1_travelledByAll : List Cond := .code yX1_travelledByAll cX1_travelledByAll 3 (some .int) :: ([.fieldLink RX1 30 "GoalLifts$Cars" "count" "I", .fieldLink RX1 27 "GoalLifts$Cars" "travelled" "[I"] ++ wsX10)
def wsX3_init_r1 : List Cond := [Cond.methodLink RX3 3 objectInit, Cond.instanceMethod objectInit, Cond.code objectInit ⟨#[0xb1]⟩ 1 none, Cond.arrayClass .int, Cond.fieldLink RX3 9 "GoalLifts$House" "awake" "[I", Cond.classLink RX3 15 RX1, Cond.instantiable RX1 8, Cond.initialized RX1, Cond.fieldLink RX3 18 "GoalLifts$House" "cars" "LGoalLifts$Cars;", Cond.classLink RX3 22 RX0, Cond.instantiable RX0 9, Cond.initialized RX0, Cond.fieldLink RX3 25 "GoalLifts$House" "callers" "LGoalLifts$Callers;", Cond.instanceMethod yX1_init, Cond.code yX1_init cX1_init 1 none, Cond.methodLink RX1 3 objectInit, Cond.fieldLink RX1 9 "GoalLifts$Cars" "lowest" "[I", Cond.fieldLink RX1 15 "GoalLifts$Cars" "highest" "[I", Cond.fieldLink RX1 18 "GoalLifts$Cars" "places" "[I", Cond.fieldLink RX1 21 "GoalLifts$Cars" "floor" "[I", Cond.fieldLink RX1 24 "GoalLifts$Cars" "state" "[I", Cond.fieldLink RX1 27 "GoalLifts$Cars" "travelled" "[I", Cond.instanceMethod yX0_init, Cond.code yX0_init cX0_init 1 none]
def wsX3_init_r2 : List Cond := [Cond.methodLink RX0 3 objectInit, Cond.fieldLink RX0 9 "GoalLifts$Callers" "floor" "[I", Cond.fieldLink RX0 15 "GoalLifts$Callers" "goal" "[I", Cond.fieldLink RX0 18 "GoalLifts$Callers" "phase" "[I", Cond.fieldLink RX0 21 "GoalLifts$Callers" "given" "[I", Cond.fieldLink RX0 24 "GoalLifts$Callers" "calledAt" "[I", Cond.fieldLink RX0 27 "GoalLifts$Callers" "rodeAt" "[I", Cond.fieldLink RX0 30 "GoalLifts$Callers" "thereAt" "[I", Cond.fieldLink RX0 33 "GoalLifts$Callers" "timesGiven" "[I"]
def wsX3_init : List Cond := .code yX3_init cX3_init 2 none :: ((wsX3_init_r1 ++ wsX3_init_r2) ++ wsX30 ++ wsX10 ++ wsX00)
def wsX2_init_r1 : List Cond := [Cond.methodLink RX2 3 objectInit, Cond.instanceMethod objectInit, Cond.code objectInit ⟨#[0xb1]⟩ 1 none, Cond.classLink RX2 9 RX3, Cond.fieldLink RX2 11 "GoalLifts$History" "states" "[LGoalLifts$House;", Cond.instantiable RX3 4, Cond.initialized RX3, Cond.methodLink RX2 17 yX3_init, Cond.instanceMethod yX3_init, Cond.code yX3_init cX3_init 2 none, Cond.methodLink RX3 3 objectInit, Cond.arrayClass .int, Cond.fieldLink RX3 9 "GoalLifts$House" "awake" "[I", Cond.classLink RX3 15 RX1, Cond.instantiable RX1 8, Cond.initialized RX1, Cond.fieldLink RX3 18 "GoalLifts$House" "cars" "LGoalLifts$Cars;", Cond.classLink RX3 22 RX0, Cond.instantiable RX0 9, Cond.initialized RX0, Cond.fieldLink RX3 25 "GoalLifts$House" "callers" "LGoalLifts$Callers;", Cond.instanceMethod yX1_init, Cond.code yX1_init cX1_init 1 none, Cond.methodLink RX1 3 objectInit]
def wsX2_init_r2 : List Cond := [Cond.fieldLink RX1 9 "GoalLifts$Cars" "lowest" "[I", Cond.fieldLink RX1 15 "GoalLifts$Cars" "highest" "[I", Cond.fieldLink RX1 18 "GoalLifts$Cars" "places" "[I", Cond.fieldLink RX1 21 "GoalLifts$Cars" "floor" "[I", Cond.fieldLink RX1 24 "GoalLifts$Cars" "state" "[I", Cond.fieldLink RX1 27 "GoalLifts$Cars" "travelled" "[I", Cond.instanceMethod yX0_init, Cond.code yX0_init cX0_init 1 none, Cond.methodLink RX0 3 objectInit, Cond.fieldLink RX0 9 "GoalLifts$Callers" "floor" "[I", Cond.fieldLink RX0 15 "GoalLifts$Callers" "goal" "[I", Cond.fieldLink RX0 18 "GoalLifts$Callers" "phase" "[I", Cond.fieldLink RX0 21 "GoalLifts$Callers" "given" "[I", Cond.fieldLink RX0 24 "GoalLifts$Callers" "calledAt" "[I", Cond.fieldLink RX0 27 "GoalLifts$Callers" "rodeAt" "[I", Cond.fieldLink RX0 30 "GoalLifts$Callers" "thereAt" "[I", Cond.fieldLink RX0 33 "GoalLifts$Callers" "timesGiven" "[I"]
def wsX2_init : List Cond := .code yX2_init cX2_init 2 none :: ((wsX2_init_r1 ++ wsX2_init_r2) ++ wsX20 ++ wsX30 ++ wsX10 ++ wsX00)
def wsX3_copyFrom_r1 : List Cond := [Cond.fieldLink RX3 29 "GoalLifts$House" "tick" "I", Cond.fieldLink RX3 9 "GoalLifts$House" "awake" "[I", Cond.methodLink RX3 33 arraycopyName, Cond.native arraycopyName, Cond.static arraycopyName, Cond.initialized "java/lang/System", Cond.fieldLink RX3 18 "GoalLifts$House" "cars" "LGoalLifts$Cars;", Cond.fieldLink RX3 25 "GoalLifts$House" "callers" "LGoalLifts$Callers;", Cond.methodLink RX3 39 yX1_copyFrom, Cond.instanceMethod yX1_copyFrom, Cond.selects RX1 yX1_copyFrom yX1_copyFrom, Cond.initialized RX1, Cond.code yX1_copyFrom cX1_copyFrom 2 none, Cond.fieldLink RX1 30 "GoalLifts$Cars" "count" "I", Cond.fieldLink RX1 34 "GoalLifts$Cars" "stopsMade" "I", Cond.fieldLink RX1 9 "GoalLifts$Cars" "lowest" "[I", Cond.methodLink RX1 37 arraycopyName, Cond.fieldLink RX1 15 "GoalLifts$Cars" "highest" "[I", Cond.fieldLink RX1 18 "GoalLifts$Cars" "places" "[I", Cond.fieldLink RX1 21 "GoalLifts$Cars" "floor" "[I", Cond.fieldLink RX1 24 "GoalLifts$Cars" "state" "[I", Cond.fieldLink RX1 27 "GoalLifts$Cars" "travelled" "[I", Cond.methodLink RX3 43 yX0_copyFrom, Cond.instanceMethod yX0_copyFrom]
def wsX3_copyFrom_r2 : List Cond := [Cond.selects RX0 yX0_copyFrom yX0_copyFrom, Cond.initialized RX0, Cond.code yX0_copyFrom cX0_copyFrom 2 none, Cond.fieldLink RX0 36 "GoalLifts$Callers" "count" "I", Cond.fieldLink RX0 9 "GoalLifts$Callers" "floor" "[I", Cond.methodLink RX0 40 arraycopyName, Cond.fieldLink RX0 15 "GoalLifts$Callers" "goal" "[I", Cond.fieldLink RX0 18 "GoalLifts$Callers" "phase" "[I", Cond.fieldLink RX0 21 "GoalLifts$Callers" "given" "[I", Cond.fieldLink RX0 24 "GoalLifts$Callers" "calledAt" "[I", Cond.fieldLink RX0 27 "GoalLifts$Callers" "rodeAt" "[I", Cond.fieldLink RX0 30 "GoalLifts$Callers" "thereAt" "[I", Cond.fieldLink RX0 33 "GoalLifts$Callers" "timesGiven" "[I"]
def wsX3_copyFrom : List Cond := .code yX3_copyFrom cX3_copyFrom 2 none :: ((wsX3_copyFrom_r1 ++ wsX3_copyFrom_r2) ++ wsX30 ++ wsX10 ++ wsX00)
def wsJ9_floorMod_7cf53 : List Cond := .code yJ9_floorMod_7cf53 cJ9_floorMod_7cf53 3 (some .int) :: ([])
def wsX2_keep_r1 : List Cond := [Cond.fieldLink RX2 11 "GoalLifts$History" "states" "[LGoalLifts$House;", Cond.fieldLink RX2 18 "GoalLifts$History" "next" "I", Cond.fieldLink RX2 32 "GoalLifts$History" "count" "I", Cond.methodLink RX2 35 Lib.Math.min.name, Cond.static Lib.Math.min.name, Cond.initialized "java/lang/Math", Cond.code Lib.Math.min.name Lib.Math.min.code 2 (some .int), Cond.methodLink RX2 22 yX3_copyFrom, Cond.instanceMethod yX3_copyFrom, Cond.selects RX3 yX3_copyFrom yX3_copyFrom, Cond.initialized RX3, Cond.code yX3_copyFrom cX3_copyFrom 2 none, Cond.fieldLink RX3 29 "GoalLifts$House" "tick" "I", Cond.fieldLink RX3 9 "GoalLifts$House" "awake" "[I", Cond.methodLink RX3 33 arraycopyName, Cond.native arraycopyName, Cond.static arraycopyName, Cond.initialized "java/lang/System", Cond.fieldLink RX3 18 "GoalLifts$House" "cars" "LGoalLifts$Cars;", Cond.fieldLink RX3 25 "GoalLifts$House" "callers" "LGoalLifts$Callers;", Cond.methodLink RX3 39 yX1_copyFrom, Cond.instanceMethod yX1_copyFrom, Cond.selects RX1 yX1_copyFrom yX1_copyFrom, Cond.initialized RX1]
def wsX2_keep_r2 : List Cond := [Cond.code yX1_copyFrom cX1_copyFrom 2 none, Cond.fieldLink RX1 30 "GoalLifts$Cars" "count" "I", Cond.fieldLink RX1 34 "GoalLifts$Cars" "stopsMade" "I", Cond.fieldLink RX1 9 "GoalLifts$Cars" "lowest" "[I", Cond.methodLink RX1 37 arraycopyName, Cond.fieldLink RX1 15 "GoalLifts$Cars" "highest" "[I", Cond.fieldLink RX1 18 "GoalLifts$Cars" "places" "[I", Cond.fieldLink RX1 21 "GoalLifts$Cars" "floor" "[I", Cond.fieldLink RX1 24 "GoalLifts$Cars" "state" "[I", Cond.fieldLink RX1 27 "GoalLifts$Cars" "travelled" "[I", Cond.methodLink RX3 43 yX0_copyFrom, Cond.instanceMethod yX0_copyFrom, Cond.selects RX0 yX0_copyFrom yX0_copyFrom, Cond.initialized RX0, Cond.code yX0_copyFrom cX0_copyFrom 2 none, Cond.fieldLink RX0 36 "GoalLifts$Callers" "count" "I", Cond.fieldLink RX0 9 "GoalLifts$Callers" "floor" "[I", Cond.methodLink RX0 40 arraycopyName, Cond.fieldLink RX0 15 "GoalLifts$Callers" "goal" "[I", Cond.fieldLink RX0 18 "GoalLifts$Callers" "phase" "[I", Cond.fieldLink RX0 21 "GoalLifts$Callers" "given" "[I", Cond.fieldLink RX0 24 "GoalLifts$Callers" "calledAt" "[I", Cond.fieldLink RX0 27 "GoalLifts$Callers" "rodeAt" "[I", Cond.fieldLink RX0 30 "GoalLifts$Callers" "thereAt" "[I"]
def wsX2_keep_r3 : List Cond := [Cond.fieldLink RX0 33 "GoalLifts$Callers" "timesGiven" "[I", Cond.methodLink RX2 26 yJ9_floorMod_7cf53, Cond.static yJ9_floorMod_7cf53, Cond.initialized RJ9, Cond.code yJ9_floorMod_7cf53 cJ9_floorMod_7cf53 3 (some .int)]
def wsX2_keep : List Cond := .code yX2_keep cX2_keep 3 none :: ((wsX2_keep_r1 ++ (wsX2_keep_r2 ++ wsX2_keep_r3)) ++ wsX20 ++ wsX30 ++ wsX10 ++ wsX00)
def wsX2_restore_r1 : List Cond := [Cond.fieldLink RX2 18 "GoalLifts$History" "next" "I", Cond.fieldLink RX2 11 "GoalLifts$History" "states" "[LGoalLifts$House;", Cond.fieldLink RX2 32 "GoalLifts$History" "count" "I", Cond.methodLink RX2 26 yJ9_floorMod_7cf53, Cond.static yJ9_floorMod_7cf53, Cond.initialized RJ9, Cond.code yJ9_floorMod_7cf53 cJ9_floorMod_7cf53 3 (some .int), Cond.methodLink RX2 22 yX3_copyFrom, Cond.instanceMethod yX3_copyFrom, Cond.selects RX3 yX3_copyFrom yX3_copyFrom, Cond.initialized RX3, Cond.code yX3_copyFrom cX3_copyFrom 2 none, Cond.fieldLink RX3 29 "GoalLifts$House" "tick" "I", Cond.fieldLink RX3 9 "GoalLifts$House" "awake" "[I", Cond.methodLink RX3 33 arraycopyName, Cond.native arraycopyName, Cond.static arraycopyName, Cond.initialized "java/lang/System", Cond.fieldLink RX3 18 "GoalLifts$House" "cars" "LGoalLifts$Cars;", Cond.fieldLink RX3 25 "GoalLifts$House" "callers" "LGoalLifts$Callers;", Cond.methodLink RX3 39 yX1_copyFrom, Cond.instanceMethod yX1_copyFrom, Cond.selects RX1 yX1_copyFrom yX1_copyFrom, Cond.initialized RX1]
def wsX2_restore_r2 : List Cond := [Cond.code yX1_copyFrom cX1_copyFrom 2 none, Cond.fieldLink RX1 30 "GoalLifts$Cars" "count" "I", Cond.fieldLink RX1 34 "GoalLifts$Cars" "stopsMade" "I", Cond.fieldLink RX1 9 "GoalLifts$Cars" "lowest" "[I", Cond.methodLink RX1 37 arraycopyName, Cond.fieldLink RX1 15 "GoalLifts$Cars" "highest" "[I", Cond.fieldLink RX1 18 "GoalLifts$Cars" "places" "[I", Cond.fieldLink RX1 21 "GoalLifts$Cars" "floor" "[I", Cond.fieldLink RX1 24 "GoalLifts$Cars" "state" "[I", Cond.fieldLink RX1 27 "GoalLifts$Cars" "travelled" "[I", Cond.methodLink RX3 43 yX0_copyFrom, Cond.instanceMethod yX0_copyFrom, Cond.selects RX0 yX0_copyFrom yX0_copyFrom, Cond.initialized RX0, Cond.code yX0_copyFrom cX0_copyFrom 2 none, Cond.fieldLink RX0 36 "GoalLifts$Callers" "count" "I", Cond.fieldLink RX0 9 "GoalLifts$Callers" "floor" "[I", Cond.methodLink RX0 40 arraycopyName, Cond.fieldLink RX0 15 "GoalLifts$Callers" "goal" "[I", Cond.fieldLink RX0 18 "GoalLifts$Callers" "phase" "[I", Cond.fieldLink RX0 21 "GoalLifts$Callers" "given" "[I", Cond.fieldLink RX0 24 "GoalLifts$Callers" "calledAt" "[I", Cond.fieldLink RX0 27 "GoalLifts$Callers" "rodeAt" "[I", Cond.fieldLink RX0 30 "GoalLifts$Callers" "thereAt" "[I"]
def wsX2_restore_r3 : List Cond := [Cond.fieldLink RX0 33 "GoalLifts$Callers" "timesGiven" "[I"]
def wsX2_restore : List Cond := .code yX2_restore cX2_restore 4 none :: ((wsX2_restore_r1 ++ (wsX2_restore_r2 ++ wsX2_restore_r3)) ++ wsX20 ++ wsX30 ++ wsX10 ++ wsX00)
def wsX3_hour : List Cond := .code yX3_hour cX3_hour 1 (some .int) :: ([.fieldLink RX3 29 "GoalLifts$House" "tick" "I", .methodLink RX3 46 yJ9_floorMod_7cf53, .static yJ9_floorMod_7cf53, .initialized RJ9, .code yJ9_floorMod_7cf53 cJ9_floorMod_7cf53 3 (some .int)] ++ wsX30)
def wsX3_isAwake : List Cond := .code yX3_isAwake cX3_isAwake 2 (some .boolean) :: ([.fieldLink RX3 9 "GoalLifts$House" "awake" "[I", .methodLink RX3 52 yX3_hour, .instanceMethod yX3_hour, .selects RX3 yX3_hour yX3_hour, .initialized RX3, .code yX3_hour cX3_hour 1 (some .int), .fieldLink RX3 29 "GoalLifts$House" "tick" "I", .methodLink RX3 46 yJ9_floorMod_7cf53, .static yJ9_floorMod_7cf53, .initialized RJ9, .code yJ9_floorMod_7cf53 cJ9_floorMod_7cf53 3 (some .int)] ++ wsX30)
def wsX3_canBeGiven : List Cond := .code yX3_canBeGiven cX3_canBeGiven 4 (some .boolean) :: ([.fieldLink RX3 18 "GoalLifts$House" "cars" "LGoalLifts$Cars;", .fieldLink RX3 56 "GoalLifts$Cars" "state" "[I", .methodLink RX3 59 yX3_isAwake, .instanceMethod yX3_isAwake, .selects RX3 yX3_isAwake yX3_isAwake, .initialized RX3, .code yX3_isAwake cX3_isAwake 2 (some .boolean), .fieldLink RX3 9 "GoalLifts$House" "awake" "[I", .methodLink RX3 52 yX3_hour, .instanceMethod yX3_hour, .selects RX3 yX3_hour yX3_hour, .code yX3_hour cX3_hour 1 (some .int), .fieldLink RX3 29 "GoalLifts$House" "tick" "I", .methodLink RX3 46 yJ9_floorMod_7cf53, .static yJ9_floorMod_7cf53, .initialized RJ9, .code yJ9_floorMod_7cf53 cJ9_floorMod_7cf53 3 (some .int), .methodLink RX3 63 yX1_serves, .instanceMethod yX1_serves, .selects RX1 yX1_serves yX1_serves, .initialized RX1, .code yX1_serves cX1_serves 3 (some .boolean), .fieldLink RX1 9 "GoalLifts$Cars" "lowest" "[I", .fieldLink RX1 15 "GoalLifts$Cars" "highest" "[I"] ++ wsX30 ++ wsX10)
def wsJ6_bitCount_0f7a4 : List Cond := .code yJ6_bitCount_0f7a4 cJ6_bitCount_0f7a4 1 (some .int) :: ([.constant RJ6 265 (1431655765), .constant RJ6 266 (858993459), .constant RJ6 267 (252645135)])
def wsX3_costOf_r1 : List Cond := [Cond.fieldLink RX3 18 "GoalLifts$House" "cars" "LGoalLifts$Cars;", Cond.fieldLink RX3 67 "GoalLifts$Cars" "floor" "[I", Cond.methodLink RX3 70 Lib.Math.abs.name, Cond.static Lib.Math.abs.name, Cond.initialized "java/lang/Math", Cond.code Lib.Math.abs.name Lib.Math.abs.code 1 (some .int), Cond.fieldLink RX3 25 "GoalLifts$House" "callers" "LGoalLifts$Callers;", Cond.methodLink RX3 74 yX0_stopsOf, Cond.instanceMethod yX0_stopsOf, Cond.selects RX0 yX0_stopsOf yX0_stopsOf, Cond.initialized RX0, Cond.code yX0_stopsOf cX0_stopsOf 4 (some .int), Cond.fieldLink RX0 36 "GoalLifts$Callers" "count" "I", Cond.fieldLink RX0 9 "GoalLifts$Callers" "floor" "[I", Cond.fieldLink RX0 15 "GoalLifts$Callers" "goal" "[I", Cond.methodLink RX0 54 yX0_waitsFor, Cond.instanceMethod yX0_waitsFor, Cond.selects RX0 yX0_waitsFor yX0_waitsFor, Cond.code yX0_waitsFor cX0_waitsFor 3 (some .boolean), Cond.fieldLink RX0 18 "GoalLifts$Callers" "phase" "[I", Cond.fieldLink RX0 21 "GoalLifts$Callers" "given" "[I", Cond.methodLink RX0 58 yX0_rides, Cond.instanceMethod yX0_rides, Cond.selects RX0 yX0_rides yX0_rides]
def wsX3_costOf_r2 : List Cond := [Cond.code yX0_rides cX0_rides 3 (some .boolean), Cond.methodLink RX3 77 yJ6_bitCount_0f7a4, Cond.static yJ6_bitCount_0f7a4, Cond.initialized RJ6, Cond.code yJ6_bitCount_0f7a4 cJ6_bitCount_0f7a4 1 (some .int), Cond.constant RJ6 265 (1431655765), Cond.constant RJ6 266 (858993459), Cond.constant RJ6 267 (252645135), Cond.methodLink RX3 82 yX0_numberWith, Cond.instanceMethod yX0_numberWith, Cond.selects RX0 yX0_numberWith yX0_numberWith, Cond.code yX0_numberWith cX0_numberWith 2 (some .int), Cond.methodLink RX0 50 yX0_numberOf, Cond.instanceMethod yX0_numberOf, Cond.selects RX0 yX0_numberOf yX0_numberOf, Cond.code yX0_numberOf cX0_numberOf 5 (some .int)]
def wsX3_costOf : List Cond := .code yX3_costOf cX3_costOf 6 (some .int) :: ((wsX3_costOf_r1 ++ wsX3_costOf_r2) ++ wsX30 ++ wsX10 ++ wsX00)
def wsX3_bestCar_r1 : List Cond := [Cond.fieldLink RX3 18 "GoalLifts$House" "cars" "LGoalLifts$Cars;", Cond.fieldLink RX3 85 "GoalLifts$Cars" "count" "I", Cond.methodLink RX3 88 yX3_canBeGiven, Cond.instanceMethod yX3_canBeGiven, Cond.selects RX3 yX3_canBeGiven yX3_canBeGiven, Cond.initialized RX3, Cond.code yX3_canBeGiven cX3_canBeGiven 4 (some .boolean), Cond.fieldLink RX3 56 "GoalLifts$Cars" "state" "[I", Cond.methodLink RX3 59 yX3_isAwake, Cond.instanceMethod yX3_isAwake, Cond.selects RX3 yX3_isAwake yX3_isAwake, Cond.code yX3_isAwake cX3_isAwake 2 (some .boolean), Cond.fieldLink RX3 9 "GoalLifts$House" "awake" "[I", Cond.methodLink RX3 52 yX3_hour, Cond.instanceMethod yX3_hour, Cond.selects RX3 yX3_hour yX3_hour, Cond.code yX3_hour cX3_hour 1 (some .int), Cond.fieldLink RX3 29 "GoalLifts$House" "tick" "I", Cond.methodLink RX3 46 yJ9_floorMod_7cf53, Cond.static yJ9_floorMod_7cf53, Cond.initialized RJ9, Cond.code yJ9_floorMod_7cf53 cJ9_floorMod_7cf53 3 (some .int), Cond.methodLink RX3 63 yX1_serves, Cond.instanceMethod yX1_serves]
def wsX3_bestCar_r2 : List Cond := [Cond.selects RX1 yX1_serves yX1_serves, Cond.initialized RX1, Cond.code yX1_serves cX1_serves 3 (some .boolean), Cond.fieldLink RX1 9 "GoalLifts$Cars" "lowest" "[I", Cond.fieldLink RX1 15 "GoalLifts$Cars" "highest" "[I", Cond.methodLink RX3 92 yX3_costOf, Cond.instanceMethod yX3_costOf, Cond.selects RX3 yX3_costOf yX3_costOf, Cond.code yX3_costOf cX3_costOf 6 (some .int), Cond.fieldLink RX3 67 "GoalLifts$Cars" "floor" "[I", Cond.methodLink RX3 70 Lib.Math.abs.name, Cond.static Lib.Math.abs.name, Cond.initialized "java/lang/Math", Cond.code Lib.Math.abs.name Lib.Math.abs.code 1 (some .int), Cond.fieldLink RX3 25 "GoalLifts$House" "callers" "LGoalLifts$Callers;", Cond.methodLink RX3 74 yX0_stopsOf, Cond.instanceMethod yX0_stopsOf, Cond.selects RX0 yX0_stopsOf yX0_stopsOf, Cond.initialized RX0, Cond.code yX0_stopsOf cX0_stopsOf 4 (some .int), Cond.fieldLink RX0 36 "GoalLifts$Callers" "count" "I", Cond.fieldLink RX0 9 "GoalLifts$Callers" "floor" "[I", Cond.fieldLink RX0 15 "GoalLifts$Callers" "goal" "[I", Cond.methodLink RX0 54 yX0_waitsFor]
def wsX3_bestCar_r3 : List Cond := [Cond.instanceMethod yX0_waitsFor, Cond.selects RX0 yX0_waitsFor yX0_waitsFor, Cond.code yX0_waitsFor cX0_waitsFor 3 (some .boolean), Cond.fieldLink RX0 18 "GoalLifts$Callers" "phase" "[I", Cond.fieldLink RX0 21 "GoalLifts$Callers" "given" "[I", Cond.methodLink RX0 58 yX0_rides, Cond.instanceMethod yX0_rides, Cond.selects RX0 yX0_rides yX0_rides, Cond.code yX0_rides cX0_rides 3 (some .boolean), Cond.methodLink RX3 77 yJ6_bitCount_0f7a4, Cond.static yJ6_bitCount_0f7a4, Cond.initialized RJ6, Cond.code yJ6_bitCount_0f7a4 cJ6_bitCount_0f7a4 1 (some .int), Cond.constant RJ6 265 (1431655765), Cond.constant RJ6 266 (858993459), Cond.constant RJ6 267 (252645135), Cond.methodLink RX3 82 yX0_numberWith, Cond.instanceMethod yX0_numberWith, Cond.selects RX0 yX0_numberWith yX0_numberWith, Cond.code yX0_numberWith cX0_numberWith 2 (some .int), Cond.methodLink RX0 50 yX0_numberOf, Cond.instanceMethod yX0_numberOf, Cond.selects RX0 yX0_numberOf yX0_numberOf, Cond.code yX0_numberOf cX0_numberOf 5 (some .int)]
def wsX3_bestCar : List Cond := .code yX3_bestCar cX3_bestCar 7 (some .int) :: ((wsX3_bestCar_r1 ++ (wsX3_bestCar_r2 ++ wsX3_bestCar_r3)) ++ wsX30 ++ wsX10 ++ wsX00)
def wsX3_stopOrTravel_r1 : List Cond := [Cond.fieldLink RX3 18 "GoalLifts$House" "cars" "LGoalLifts$Cars;", Cond.fieldLink RX3 67 "GoalLifts$Cars" "floor" "[I", Cond.fieldLink RX3 25 "GoalLifts$House" "callers" "LGoalLifts$Callers;", Cond.fieldLink RX3 29 "GoalLifts$House" "tick" "I", Cond.fieldLink RX3 118 "GoalLifts$Cars" "places" "[I", Cond.fieldLink RX3 125 "GoalLifts$Cars" "stopsMade" "I", Cond.methodLink RX3 115 yX0_letOut, Cond.instanceMethod yX0_letOut, Cond.selects RX0 yX0_letOut yX0_letOut, Cond.initialized RX0, Cond.code yX0_letOut cX0_letOut 6 (some .int), Cond.fieldLink RX0 36 "GoalLifts$Callers" "count" "I", Cond.fieldLink RX0 15 "GoalLifts$Callers" "goal" "[I", Cond.fieldLink RX0 18 "GoalLifts$Callers" "phase" "[I", Cond.fieldLink RX0 30 "GoalLifts$Callers" "thereAt" "[I", Cond.methodLink RX0 58 yX0_rides, Cond.instanceMethod yX0_rides, Cond.selects RX0 yX0_rides yX0_rides, Cond.code yX0_rides cX0_rides 3 (some .boolean), Cond.fieldLink RX0 21 "GoalLifts$Callers" "given" "[I", Cond.methodLink RX3 121 yX0_takeIn, Cond.instanceMethod yX0_takeIn, Cond.selects RX0 yX0_takeIn yX0_takeIn, Cond.code yX0_takeIn cX0_takeIn 8 (some .int)]
def wsX3_stopOrTravel_r2 : List Cond := [Cond.fieldLink RX0 9 "GoalLifts$Callers" "floor" "[I", Cond.fieldLink RX0 27 "GoalLifts$Callers" "rodeAt" "[I", Cond.methodLink RX0 50 yX0_numberOf, Cond.instanceMethod yX0_numberOf, Cond.selects RX0 yX0_numberOf yX0_numberOf, Cond.code yX0_numberOf cX0_numberOf 5 (some .int), Cond.methodLink RX0 54 yX0_waitsFor, Cond.instanceMethod yX0_waitsFor, Cond.selects RX0 yX0_waitsFor yX0_waitsFor, Cond.code yX0_waitsFor cX0_waitsFor 3 (some .boolean), Cond.methodLink RX3 128 yX0_aimOf, Cond.instanceMethod yX0_aimOf, Cond.selects RX0 yX0_aimOf yX0_aimOf, Cond.code yX0_aimOf cX0_aimOf 6 (some .int), Cond.methodLink RX0 61 yX0_isNearer, Cond.static yX0_isNearer, Cond.code yX0_isNearer cX0_isNearer 5 (some .boolean), Cond.methodLink RX0 65 Lib.Math.abs.name, Cond.static Lib.Math.abs.name, Cond.initialized "java/lang/Math", Cond.code Lib.Math.abs.name Lib.Math.abs.code 1 (some .int), Cond.methodLink RX3 131 yX1_travelTowards, Cond.instanceMethod yX1_travelTowards, Cond.selects RX1 yX1_travelTowards yX1_travelTowards]
def wsX3_stopOrTravel_r3 : List Cond := [Cond.initialized RX1, Cond.code yX1_travelTowards cX1_travelTowards 3 none, Cond.fieldLink RX1 21 "GoalLifts$Cars" "floor" "[I", Cond.fieldLink RX1 27 "GoalLifts$Cars" "travelled" "[I"]
def wsX3_stopOrTravel : List Cond := .code yX3_stopOrTravel cX3_stopOrTravel 6 none :: ((wsX3_stopOrTravel_r1 ++ (wsX3_stopOrTravel_r2 ++ wsX3_stopOrTravel_r3)) ++ wsX30 ++ wsX10 ++ wsX00)
def wsX3_oneTick_r1 : List Cond := [Cond.fieldLink RX3 25 "GoalLifts$House" "callers" "LGoalLifts$Callers;", Cond.fieldLink RX3 96 "GoalLifts$Callers" "count" "I", Cond.fieldLink RX3 97 "GoalLifts$Callers" "phase" "[I", Cond.fieldLink RX3 100 "GoalLifts$Callers" "floor" "[I", Cond.fieldLink RX3 101 "GoalLifts$Callers" "goal" "[I", Cond.fieldLink RX3 18 "GoalLifts$House" "cars" "LGoalLifts$Cars;", Cond.fieldLink RX3 85 "GoalLifts$Cars" "count" "I", Cond.fieldLink RX3 56 "GoalLifts$Cars" "state" "[I", Cond.fieldLink RX3 29 "GoalLifts$House" "tick" "I", Cond.methodLink RX3 104 yX3_bestCar, Cond.instanceMethod yX3_bestCar, Cond.selects RX3 yX3_bestCar yX3_bestCar, Cond.initialized RX3, Cond.code yX3_bestCar cX3_bestCar 7 (some .int), Cond.methodLink RX3 88 yX3_canBeGiven, Cond.instanceMethod yX3_canBeGiven, Cond.selects RX3 yX3_canBeGiven yX3_canBeGiven, Cond.code yX3_canBeGiven cX3_canBeGiven 4 (some .boolean), Cond.methodLink RX3 59 yX3_isAwake, Cond.instanceMethod yX3_isAwake, Cond.selects RX3 yX3_isAwake yX3_isAwake, Cond.code yX3_isAwake cX3_isAwake 2 (some .boolean), Cond.fieldLink RX3 9 "GoalLifts$House" "awake" "[I", Cond.methodLink RX3 52 yX3_hour]
def wsX3_oneTick_r2 : List Cond := [Cond.instanceMethod yX3_hour, Cond.selects RX3 yX3_hour yX3_hour, Cond.code yX3_hour cX3_hour 1 (some .int), Cond.methodLink RX3 46 yJ9_floorMod_7cf53, Cond.static yJ9_floorMod_7cf53, Cond.initialized RJ9, Cond.code yJ9_floorMod_7cf53 cJ9_floorMod_7cf53 3 (some .int), Cond.methodLink RX3 63 yX1_serves, Cond.instanceMethod yX1_serves, Cond.selects RX1 yX1_serves yX1_serves, Cond.initialized RX1, Cond.code yX1_serves cX1_serves 3 (some .boolean), Cond.fieldLink RX1 9 "GoalLifts$Cars" "lowest" "[I", Cond.fieldLink RX1 15 "GoalLifts$Cars" "highest" "[I", Cond.methodLink RX3 92 yX3_costOf, Cond.instanceMethod yX3_costOf, Cond.selects RX3 yX3_costOf yX3_costOf, Cond.code yX3_costOf cX3_costOf 6 (some .int), Cond.fieldLink RX3 67 "GoalLifts$Cars" "floor" "[I", Cond.methodLink RX3 70 Lib.Math.abs.name, Cond.static Lib.Math.abs.name, Cond.initialized "java/lang/Math", Cond.code Lib.Math.abs.name Lib.Math.abs.code 1 (some .int), Cond.methodLink RX3 74 yX0_stopsOf]
def wsX3_oneTick_r3 : List Cond := [Cond.instanceMethod yX0_stopsOf, Cond.selects RX0 yX0_stopsOf yX0_stopsOf, Cond.initialized RX0, Cond.code yX0_stopsOf cX0_stopsOf 4 (some .int), Cond.fieldLink RX0 36 "GoalLifts$Callers" "count" "I", Cond.fieldLink RX0 9 "GoalLifts$Callers" "floor" "[I", Cond.fieldLink RX0 15 "GoalLifts$Callers" "goal" "[I", Cond.methodLink RX0 54 yX0_waitsFor, Cond.instanceMethod yX0_waitsFor, Cond.selects RX0 yX0_waitsFor yX0_waitsFor, Cond.code yX0_waitsFor cX0_waitsFor 3 (some .boolean), Cond.fieldLink RX0 18 "GoalLifts$Callers" "phase" "[I", Cond.fieldLink RX0 21 "GoalLifts$Callers" "given" "[I", Cond.methodLink RX0 58 yX0_rides, Cond.instanceMethod yX0_rides, Cond.selects RX0 yX0_rides yX0_rides, Cond.code yX0_rides cX0_rides 3 (some .boolean), Cond.methodLink RX3 77 yJ6_bitCount_0f7a4, Cond.static yJ6_bitCount_0f7a4, Cond.initialized RJ6, Cond.code yJ6_bitCount_0f7a4 cJ6_bitCount_0f7a4 1 (some .int), Cond.constant RJ6 265 (1431655765), Cond.constant RJ6 266 (858993459), Cond.constant RJ6 267 (252645135)]
def wsX3_oneTick_r4 : List Cond := [Cond.methodLink RX3 82 yX0_numberWith, Cond.instanceMethod yX0_numberWith, Cond.selects RX0 yX0_numberWith yX0_numberWith, Cond.code yX0_numberWith cX0_numberWith 2 (some .int), Cond.methodLink RX0 50 yX0_numberOf, Cond.instanceMethod yX0_numberOf, Cond.selects RX0 yX0_numberOf yX0_numberOf, Cond.code yX0_numberOf cX0_numberOf 5 (some .int), Cond.methodLink RX3 107 yX0_give, Cond.instanceMethod yX0_give, Cond.selects RX0 yX0_give yX0_give, Cond.code yX0_give cX0_give 3 none, Cond.fieldLink RX0 33 "GoalLifts$Callers" "timesGiven" "[I", Cond.methodLink RX0 46 yX0_has, Cond.instanceMethod yX0_has, Cond.selects RX0 yX0_has yX0_has, Cond.code yX0_has cX0_has 2 (some .boolean), Cond.methodLink RX3 111 yX3_stopOrTravel, Cond.instanceMethod yX3_stopOrTravel, Cond.selects RX3 yX3_stopOrTravel yX3_stopOrTravel, Cond.code yX3_stopOrTravel cX3_stopOrTravel 6 none, Cond.fieldLink RX3 118 "GoalLifts$Cars" "places" "[I", Cond.fieldLink RX3 125 "GoalLifts$Cars" "stopsMade" "I", Cond.methodLink RX3 115 yX0_letOut]
def wsX3_oneTick_r5 : List Cond := [Cond.instanceMethod yX0_letOut, Cond.selects RX0 yX0_letOut yX0_letOut, Cond.code yX0_letOut cX0_letOut 6 (some .int), Cond.fieldLink RX0 30 "GoalLifts$Callers" "thereAt" "[I", Cond.methodLink RX3 121 yX0_takeIn, Cond.instanceMethod yX0_takeIn, Cond.selects RX0 yX0_takeIn yX0_takeIn, Cond.code yX0_takeIn cX0_takeIn 8 (some .int), Cond.fieldLink RX0 27 "GoalLifts$Callers" "rodeAt" "[I", Cond.methodLink RX3 128 yX0_aimOf, Cond.instanceMethod yX0_aimOf, Cond.selects RX0 yX0_aimOf yX0_aimOf, Cond.code yX0_aimOf cX0_aimOf 6 (some .int), Cond.methodLink RX0 61 yX0_isNearer, Cond.static yX0_isNearer, Cond.code yX0_isNearer cX0_isNearer 5 (some .boolean), Cond.methodLink RX0 65 Lib.Math.abs.name, Cond.methodLink RX3 131 yX1_travelTowards, Cond.instanceMethod yX1_travelTowards, Cond.selects RX1 yX1_travelTowards yX1_travelTowards, Cond.code yX1_travelTowards cX1_travelTowards 3 none, Cond.fieldLink RX1 21 "GoalLifts$Cars" "floor" "[I", Cond.fieldLink RX1 27 "GoalLifts$Cars" "travelled" "[I"]
def wsX3_oneTick : List Cond := .code yX3_oneTick cX3_oneTick 2 none :: ((wsX3_oneTick_r1 ++ (wsX3_oneTick_r2 ++ (wsX3_oneTick_r3 ++ (wsX3_oneTick_r4 ++ wsX3_oneTick_r5)))) ++ wsX30 ++ wsX00 ++ wsX10)
def wsX3_breakCar : List Cond := .code yX3_breakCar cX3_breakCar 2 none :: ([.fieldLink RX3 18 "GoalLifts$House" "cars" "LGoalLifts$Cars;", .fieldLink RX3 56 "GoalLifts$Cars" "state" "[I", .fieldLink RX3 25 "GoalLifts$House" "callers" "LGoalLifts$Callers;", .fieldLink RX3 67 "GoalLifts$Cars" "floor" "[I", .fieldLink RX3 29 "GoalLifts$House" "tick" "I", .methodLink RX3 134 yX0_loseCar, .instanceMethod yX0_loseCar, .selects RX0 yX0_loseCar yX0_loseCar, .initialized RX0, .code yX0_loseCar cX0_loseCar 6 none, .fieldLink RX0 36 "GoalLifts$Callers" "count" "I", .fieldLink RX0 9 "GoalLifts$Callers" "floor" "[I", .fieldLink RX0 15 "GoalLifts$Callers" "goal" "[I", .fieldLink RX0 18 "GoalLifts$Callers" "phase" "[I", .fieldLink RX0 30 "GoalLifts$Callers" "thereAt" "[I", .fieldLink RX0 21 "GoalLifts$Callers" "given" "[I", .methodLink RX0 58 yX0_rides, .instanceMethod yX0_rides, .selects RX0 yX0_rides yX0_rides, .code yX0_rides cX0_rides 3 (some .boolean), .methodLink RX0 54 yX0_waitsFor, .instanceMethod yX0_waitsFor, .selects RX0 yX0_waitsFor yX0_waitsFor, .code yX0_waitsFor cX0_waitsFor 3 (some .boolean)] ++ wsX30 ++ wsX10 ++ wsX00)
def wsX4_init_r1 : List Cond := [Cond.methodLink RX4 1 objectInit, Cond.instanceMethod objectInit, Cond.code objectInit ⟨#[0xb1]⟩ 1 none, Cond.classLink RX4 7 RX3, Cond.instantiable RX3 4, Cond.initialized RX3, Cond.fieldLink RX4 10 "GoalLifts" "house" "LGoalLifts$House;", Cond.fieldLink RX4 16 "GoalLifts" "forecast" "LGoalLifts$House;", Cond.classLink RX4 19 RX2, Cond.instantiable RX2 3, Cond.initialized RX2, Cond.fieldLink RX4 22 "GoalLifts" "history" "LGoalLifts$History;", Cond.methodLink RX4 9 yX3_init, Cond.instanceMethod yX3_init, Cond.code yX3_init cX3_init 2 none, Cond.methodLink RX3 3 objectInit, Cond.arrayClass .int, Cond.fieldLink RX3 9 "GoalLifts$House" "awake" "[I", Cond.classLink RX3 15 RX1, Cond.instantiable RX1 8, Cond.initialized RX1, Cond.fieldLink RX3 18 "GoalLifts$House" "cars" "LGoalLifts$Cars;", Cond.classLink RX3 22 RX0, Cond.instantiable RX0 9]
def wsX4_init_r2 : List Cond := [Cond.initialized RX0, Cond.fieldLink RX3 25 "GoalLifts$House" "callers" "LGoalLifts$Callers;", Cond.instanceMethod yX1_init, Cond.code yX1_init cX1_init 1 none, Cond.methodLink RX1 3 objectInit, Cond.fieldLink RX1 9 "GoalLifts$Cars" "lowest" "[I", Cond.fieldLink RX1 15 "GoalLifts$Cars" "highest" "[I", Cond.fieldLink RX1 18 "GoalLifts$Cars" "places" "[I", Cond.fieldLink RX1 21 "GoalLifts$Cars" "floor" "[I", Cond.fieldLink RX1 24 "GoalLifts$Cars" "state" "[I", Cond.fieldLink RX1 27 "GoalLifts$Cars" "travelled" "[I", Cond.instanceMethod yX0_init, Cond.code yX0_init cX0_init 1 none, Cond.methodLink RX0 3 objectInit, Cond.fieldLink RX0 9 "GoalLifts$Callers" "floor" "[I", Cond.fieldLink RX0 15 "GoalLifts$Callers" "goal" "[I", Cond.fieldLink RX0 18 "GoalLifts$Callers" "phase" "[I", Cond.fieldLink RX0 21 "GoalLifts$Callers" "given" "[I", Cond.fieldLink RX0 24 "GoalLifts$Callers" "calledAt" "[I", Cond.fieldLink RX0 27 "GoalLifts$Callers" "rodeAt" "[I", Cond.fieldLink RX0 30 "GoalLifts$Callers" "thereAt" "[I", Cond.fieldLink RX0 33 "GoalLifts$Callers" "timesGiven" "[I", Cond.methodLink RX4 21 yX2_init, Cond.instanceMethod yX2_init]
def wsX4_init_r3 : List Cond := [Cond.code yX2_init cX2_init 2 none, Cond.methodLink RX2 3 objectInit, Cond.classLink RX2 9 RX3, Cond.fieldLink RX2 11 "GoalLifts$History" "states" "[LGoalLifts$House;", Cond.methodLink RX2 17 yX3_init]
def wsX4_init : List Cond := .code yX4_init cX4_init 1 none :: ((wsX4_init_r1 ++ (wsX4_init_r2 ++ wsX4_init_r3)) ++ wsX30 ++ wsX40 ++ wsX20 ++ wsX10 ++ wsX00)
def wsX4_isFloor : List Cond := .code yX4_isFloor cX4_isFloor 1 (some .boolean) :: ([])
def wsX4_addCar_r1 : List Cond := [Cond.fieldLink RX4 10 "GoalLifts" "house" "LGoalLifts$House;", Cond.fieldLink RX4 30 "GoalLifts$House" "cars" "LGoalLifts$Cars;", Cond.fieldLink RX4 34 "GoalLifts$Cars" "count" "I", Cond.fieldLink RX4 22 "GoalLifts" "history" "LGoalLifts$History;", Cond.methodLink RX4 26 yX4_isFloor, Cond.static yX4_isFloor, Cond.initialized RX4, Cond.code yX4_isFloor cX4_isFloor 1 (some .boolean), Cond.methodLink RX4 40 yX2_keep, Cond.instanceMethod yX2_keep, Cond.selects RX2 yX2_keep yX2_keep, Cond.initialized RX2, Cond.code yX2_keep cX2_keep 3 none, Cond.fieldLink RX2 11 "GoalLifts$History" "states" "[LGoalLifts$House;", Cond.fieldLink RX2 18 "GoalLifts$History" "next" "I", Cond.fieldLink RX2 32 "GoalLifts$History" "count" "I", Cond.methodLink RX2 35 Lib.Math.min.name, Cond.static Lib.Math.min.name, Cond.initialized "java/lang/Math", Cond.code Lib.Math.min.name Lib.Math.min.code 2 (some .int), Cond.methodLink RX2 22 yX3_copyFrom, Cond.instanceMethod yX3_copyFrom, Cond.selects RX3 yX3_copyFrom yX3_copyFrom, Cond.initialized RX3]
def wsX4_addCar_r2 : List Cond := [Cond.code yX3_copyFrom cX3_copyFrom 2 none, Cond.fieldLink RX3 29 "GoalLifts$House" "tick" "I", Cond.fieldLink RX3 9 "GoalLifts$House" "awake" "[I", Cond.methodLink RX3 33 arraycopyName, Cond.native arraycopyName, Cond.static arraycopyName, Cond.initialized "java/lang/System", Cond.fieldLink RX3 18 "GoalLifts$House" "cars" "LGoalLifts$Cars;", Cond.fieldLink RX3 25 "GoalLifts$House" "callers" "LGoalLifts$Callers;", Cond.methodLink RX3 39 yX1_copyFrom, Cond.instanceMethod yX1_copyFrom, Cond.selects RX1 yX1_copyFrom yX1_copyFrom, Cond.initialized RX1, Cond.code yX1_copyFrom cX1_copyFrom 2 none, Cond.fieldLink RX1 30 "GoalLifts$Cars" "count" "I", Cond.fieldLink RX1 34 "GoalLifts$Cars" "stopsMade" "I", Cond.fieldLink RX1 9 "GoalLifts$Cars" "lowest" "[I", Cond.methodLink RX1 37 arraycopyName, Cond.fieldLink RX1 15 "GoalLifts$Cars" "highest" "[I", Cond.fieldLink RX1 18 "GoalLifts$Cars" "places" "[I", Cond.fieldLink RX1 21 "GoalLifts$Cars" "floor" "[I", Cond.fieldLink RX1 24 "GoalLifts$Cars" "state" "[I", Cond.fieldLink RX1 27 "GoalLifts$Cars" "travelled" "[I", Cond.methodLink RX3 43 yX0_copyFrom]
def wsX4_addCar_r3 : List Cond := [Cond.instanceMethod yX0_copyFrom, Cond.selects RX0 yX0_copyFrom yX0_copyFrom, Cond.initialized RX0, Cond.code yX0_copyFrom cX0_copyFrom 2 none, Cond.fieldLink RX0 36 "GoalLifts$Callers" "count" "I", Cond.fieldLink RX0 9 "GoalLifts$Callers" "floor" "[I", Cond.methodLink RX0 40 arraycopyName, Cond.fieldLink RX0 15 "GoalLifts$Callers" "goal" "[I", Cond.fieldLink RX0 18 "GoalLifts$Callers" "phase" "[I", Cond.fieldLink RX0 21 "GoalLifts$Callers" "given" "[I", Cond.fieldLink RX0 24 "GoalLifts$Callers" "calledAt" "[I", Cond.fieldLink RX0 27 "GoalLifts$Callers" "rodeAt" "[I", Cond.fieldLink RX0 30 "GoalLifts$Callers" "thereAt" "[I", Cond.fieldLink RX0 33 "GoalLifts$Callers" "timesGiven" "[I", Cond.methodLink RX2 26 yJ9_floorMod_7cf53, Cond.static yJ9_floorMod_7cf53, Cond.initialized RJ9, Cond.code yJ9_floorMod_7cf53 cJ9_floorMod_7cf53 3 (some .int), Cond.methodLink RX4 44 yX1_add, Cond.instanceMethod yX1_add, Cond.selects RX1 yX1_add yX1_add, Cond.code yX1_add cX1_add 5 (some .int)]
def wsX4_addCar : List Cond := .code yX4_addCar cX4_addCar 4 (some .int) :: ((wsX4_addCar_r1 ++ (wsX4_addCar_r2 ++ wsX4_addCar_r3)) ++ wsX40 ++ wsX30 ++ wsX10 ++ wsX20 ++ wsX00)
def wsX4_setAwake_r1 : List Cond := [Cond.fieldLink RX4 22 "GoalLifts" "history" "LGoalLifts$History;", Cond.fieldLink RX4 10 "GoalLifts" "house" "LGoalLifts$House;", Cond.fieldLink RX4 48 "GoalLifts$House" "awake" "[I", Cond.methodLink RX4 40 yX2_keep, Cond.instanceMethod yX2_keep, Cond.selects RX2 yX2_keep yX2_keep, Cond.initialized RX2, Cond.code yX2_keep cX2_keep 3 none, Cond.fieldLink RX2 11 "GoalLifts$History" "states" "[LGoalLifts$House;", Cond.fieldLink RX2 18 "GoalLifts$History" "next" "I", Cond.fieldLink RX2 32 "GoalLifts$History" "count" "I", Cond.methodLink RX2 35 Lib.Math.min.name, Cond.static Lib.Math.min.name, Cond.initialized "java/lang/Math", Cond.code Lib.Math.min.name Lib.Math.min.code 2 (some .int), Cond.methodLink RX2 22 yX3_copyFrom, Cond.instanceMethod yX3_copyFrom, Cond.selects RX3 yX3_copyFrom yX3_copyFrom, Cond.initialized RX3, Cond.code yX3_copyFrom cX3_copyFrom 2 none, Cond.fieldLink RX3 29 "GoalLifts$House" "tick" "I", Cond.fieldLink RX3 9 "GoalLifts$House" "awake" "[I", Cond.methodLink RX3 33 arraycopyName, Cond.native arraycopyName]
def wsX4_setAwake_r2 : List Cond := [Cond.static arraycopyName, Cond.initialized "java/lang/System", Cond.fieldLink RX3 18 "GoalLifts$House" "cars" "LGoalLifts$Cars;", Cond.fieldLink RX3 25 "GoalLifts$House" "callers" "LGoalLifts$Callers;", Cond.methodLink RX3 39 yX1_copyFrom, Cond.instanceMethod yX1_copyFrom, Cond.selects RX1 yX1_copyFrom yX1_copyFrom, Cond.initialized RX1, Cond.code yX1_copyFrom cX1_copyFrom 2 none, Cond.fieldLink RX1 30 "GoalLifts$Cars" "count" "I", Cond.fieldLink RX1 34 "GoalLifts$Cars" "stopsMade" "I", Cond.fieldLink RX1 9 "GoalLifts$Cars" "lowest" "[I", Cond.methodLink RX1 37 arraycopyName, Cond.fieldLink RX1 15 "GoalLifts$Cars" "highest" "[I", Cond.fieldLink RX1 18 "GoalLifts$Cars" "places" "[I", Cond.fieldLink RX1 21 "GoalLifts$Cars" "floor" "[I", Cond.fieldLink RX1 24 "GoalLifts$Cars" "state" "[I", Cond.fieldLink RX1 27 "GoalLifts$Cars" "travelled" "[I", Cond.methodLink RX3 43 yX0_copyFrom, Cond.instanceMethod yX0_copyFrom, Cond.selects RX0 yX0_copyFrom yX0_copyFrom, Cond.initialized RX0, Cond.code yX0_copyFrom cX0_copyFrom 2 none, Cond.fieldLink RX0 36 "GoalLifts$Callers" "count" "I"]
def wsX4_setAwake_r3 : List Cond := [Cond.fieldLink RX0 9 "GoalLifts$Callers" "floor" "[I", Cond.methodLink RX0 40 arraycopyName, Cond.fieldLink RX0 15 "GoalLifts$Callers" "goal" "[I", Cond.fieldLink RX0 18 "GoalLifts$Callers" "phase" "[I", Cond.fieldLink RX0 21 "GoalLifts$Callers" "given" "[I", Cond.fieldLink RX0 24 "GoalLifts$Callers" "calledAt" "[I", Cond.fieldLink RX0 27 "GoalLifts$Callers" "rodeAt" "[I", Cond.fieldLink RX0 30 "GoalLifts$Callers" "thereAt" "[I", Cond.fieldLink RX0 33 "GoalLifts$Callers" "timesGiven" "[I", Cond.methodLink RX2 26 yJ9_floorMod_7cf53, Cond.static yJ9_floorMod_7cf53, Cond.initialized RJ9, Cond.code yJ9_floorMod_7cf53 cJ9_floorMod_7cf53 3 (some .int)]
def wsX4_setAwake : List Cond := .code yX4_setAwake cX4_setAwake 4 (some .int) :: ((wsX4_setAwake_r1 ++ (wsX4_setAwake_r2 ++ wsX4_setAwake_r3)) ++ wsX40 ++ wsX30 ++ wsX20 ++ wsX10 ++ wsX00)
def wsX4_hold_r1 : List Cond := [Cond.fieldLink RX4 10 "GoalLifts" "house" "LGoalLifts$House;", Cond.fieldLink RX4 30 "GoalLifts$House" "cars" "LGoalLifts$Cars;", Cond.fieldLink RX4 55 "GoalLifts$Cars" "state" "[I", Cond.fieldLink RX4 22 "GoalLifts" "history" "LGoalLifts$History;", Cond.fieldLink RX4 58 "GoalLifts$House" "callers" "LGoalLifts$Callers;", Cond.methodLink RX4 52 yX1_has, Cond.instanceMethod yX1_has, Cond.selects RX1 yX1_has yX1_has, Cond.initialized RX1, Cond.code yX1_has cX1_has 2 (some .boolean), Cond.fieldLink RX1 30 "GoalLifts$Cars" "count" "I", Cond.methodLink RX4 40 yX2_keep, Cond.instanceMethod yX2_keep, Cond.selects RX2 yX2_keep yX2_keep, Cond.initialized RX2, Cond.code yX2_keep cX2_keep 3 none, Cond.fieldLink RX2 11 "GoalLifts$History" "states" "[LGoalLifts$House;", Cond.fieldLink RX2 18 "GoalLifts$History" "next" "I", Cond.fieldLink RX2 32 "GoalLifts$History" "count" "I", Cond.methodLink RX2 35 Lib.Math.min.name, Cond.static Lib.Math.min.name, Cond.initialized "java/lang/Math", Cond.code Lib.Math.min.name Lib.Math.min.code 2 (some .int), Cond.methodLink RX2 22 yX3_copyFrom]
def wsX4_hold_r2 : List Cond := [Cond.instanceMethod yX3_copyFrom, Cond.selects RX3 yX3_copyFrom yX3_copyFrom, Cond.initialized RX3, Cond.code yX3_copyFrom cX3_copyFrom 2 none, Cond.fieldLink RX3 29 "GoalLifts$House" "tick" "I", Cond.fieldLink RX3 9 "GoalLifts$House" "awake" "[I", Cond.methodLink RX3 33 arraycopyName, Cond.native arraycopyName, Cond.static arraycopyName, Cond.initialized "java/lang/System", Cond.fieldLink RX3 18 "GoalLifts$House" "cars" "LGoalLifts$Cars;", Cond.fieldLink RX3 25 "GoalLifts$House" "callers" "LGoalLifts$Callers;", Cond.methodLink RX3 39 yX1_copyFrom, Cond.instanceMethod yX1_copyFrom, Cond.selects RX1 yX1_copyFrom yX1_copyFrom, Cond.code yX1_copyFrom cX1_copyFrom 2 none, Cond.fieldLink RX1 34 "GoalLifts$Cars" "stopsMade" "I", Cond.fieldLink RX1 9 "GoalLifts$Cars" "lowest" "[I", Cond.methodLink RX1 37 arraycopyName, Cond.fieldLink RX1 15 "GoalLifts$Cars" "highest" "[I", Cond.fieldLink RX1 18 "GoalLifts$Cars" "places" "[I", Cond.fieldLink RX1 21 "GoalLifts$Cars" "floor" "[I", Cond.fieldLink RX1 24 "GoalLifts$Cars" "state" "[I", Cond.fieldLink RX1 27 "GoalLifts$Cars" "travelled" "[I"]
def wsX4_hold_r3 : List Cond := [Cond.methodLink RX3 43 yX0_copyFrom, Cond.instanceMethod yX0_copyFrom, Cond.selects RX0 yX0_copyFrom yX0_copyFrom, Cond.initialized RX0, Cond.code yX0_copyFrom cX0_copyFrom 2 none, Cond.fieldLink RX0 36 "GoalLifts$Callers" "count" "I", Cond.fieldLink RX0 9 "GoalLifts$Callers" "floor" "[I", Cond.methodLink RX0 40 arraycopyName, Cond.fieldLink RX0 15 "GoalLifts$Callers" "goal" "[I", Cond.fieldLink RX0 18 "GoalLifts$Callers" "phase" "[I", Cond.fieldLink RX0 21 "GoalLifts$Callers" "given" "[I", Cond.fieldLink RX0 24 "GoalLifts$Callers" "calledAt" "[I", Cond.fieldLink RX0 27 "GoalLifts$Callers" "rodeAt" "[I", Cond.fieldLink RX0 30 "GoalLifts$Callers" "thereAt" "[I", Cond.fieldLink RX0 33 "GoalLifts$Callers" "timesGiven" "[I", Cond.methodLink RX2 26 yJ9_floorMod_7cf53, Cond.static yJ9_floorMod_7cf53, Cond.initialized RJ9, Cond.code yJ9_floorMod_7cf53 cJ9_floorMod_7cf53 3 (some .int), Cond.methodLink RX4 62 yX0_numberWith, Cond.instanceMethod yX0_numberWith, Cond.selects RX0 yX0_numberWith yX0_numberWith, Cond.code yX0_numberWith cX0_numberWith 2 (some .int), Cond.methodLink RX0 50 yX0_numberOf]
def wsX4_hold_r4 : List Cond := [Cond.instanceMethod yX0_numberOf, Cond.selects RX0 yX0_numberOf yX0_numberOf, Cond.code yX0_numberOf cX0_numberOf 5 (some .int)]
def wsX4_hold : List Cond := .code yX4_hold cX4_hold 5 (some .int) :: ((wsX4_hold_r1 ++ (wsX4_hold_r2 ++ (wsX4_hold_r3 ++ wsX4_hold_r4))) ++ wsX40 ++ wsX30 ++ wsX10 ++ wsX20 ++ wsX00)
def wsX4_fail_r1 : List Cond := [Cond.fieldLink RX4 10 "GoalLifts" "house" "LGoalLifts$House;", Cond.fieldLink RX4 30 "GoalLifts$House" "cars" "LGoalLifts$Cars;", Cond.fieldLink RX4 55 "GoalLifts$Cars" "state" "[I", Cond.fieldLink RX4 22 "GoalLifts" "history" "LGoalLifts$History;", Cond.fieldLink RX4 58 "GoalLifts$House" "callers" "LGoalLifts$Callers;", Cond.methodLink RX4 52 yX1_has, Cond.instanceMethod yX1_has, Cond.selects RX1 yX1_has yX1_has, Cond.initialized RX1, Cond.code yX1_has cX1_has 2 (some .boolean), Cond.fieldLink RX1 30 "GoalLifts$Cars" "count" "I", Cond.methodLink RX4 40 yX2_keep, Cond.instanceMethod yX2_keep, Cond.selects RX2 yX2_keep yX2_keep, Cond.initialized RX2, Cond.code yX2_keep cX2_keep 3 none, Cond.fieldLink RX2 11 "GoalLifts$History" "states" "[LGoalLifts$House;", Cond.fieldLink RX2 18 "GoalLifts$History" "next" "I", Cond.fieldLink RX2 32 "GoalLifts$History" "count" "I", Cond.methodLink RX2 35 Lib.Math.min.name, Cond.static Lib.Math.min.name, Cond.initialized "java/lang/Math", Cond.code Lib.Math.min.name Lib.Math.min.code 2 (some .int), Cond.methodLink RX2 22 yX3_copyFrom]
def wsX4_fail_r2 : List Cond := [Cond.instanceMethod yX3_copyFrom, Cond.selects RX3 yX3_copyFrom yX3_copyFrom, Cond.initialized RX3, Cond.code yX3_copyFrom cX3_copyFrom 2 none, Cond.fieldLink RX3 29 "GoalLifts$House" "tick" "I", Cond.fieldLink RX3 9 "GoalLifts$House" "awake" "[I", Cond.methodLink RX3 33 arraycopyName, Cond.native arraycopyName, Cond.static arraycopyName, Cond.initialized "java/lang/System", Cond.fieldLink RX3 18 "GoalLifts$House" "cars" "LGoalLifts$Cars;", Cond.fieldLink RX3 25 "GoalLifts$House" "callers" "LGoalLifts$Callers;", Cond.methodLink RX3 39 yX1_copyFrom, Cond.instanceMethod yX1_copyFrom, Cond.selects RX1 yX1_copyFrom yX1_copyFrom, Cond.code yX1_copyFrom cX1_copyFrom 2 none, Cond.fieldLink RX1 34 "GoalLifts$Cars" "stopsMade" "I", Cond.fieldLink RX1 9 "GoalLifts$Cars" "lowest" "[I", Cond.methodLink RX1 37 arraycopyName, Cond.fieldLink RX1 15 "GoalLifts$Cars" "highest" "[I", Cond.fieldLink RX1 18 "GoalLifts$Cars" "places" "[I", Cond.fieldLink RX1 21 "GoalLifts$Cars" "floor" "[I", Cond.fieldLink RX1 24 "GoalLifts$Cars" "state" "[I", Cond.fieldLink RX1 27 "GoalLifts$Cars" "travelled" "[I"]
def wsX4_fail_r3 : List Cond := [Cond.methodLink RX3 43 yX0_copyFrom, Cond.instanceMethod yX0_copyFrom, Cond.selects RX0 yX0_copyFrom yX0_copyFrom, Cond.initialized RX0, Cond.code yX0_copyFrom cX0_copyFrom 2 none, Cond.fieldLink RX0 36 "GoalLifts$Callers" "count" "I", Cond.fieldLink RX0 9 "GoalLifts$Callers" "floor" "[I", Cond.methodLink RX0 40 arraycopyName, Cond.fieldLink RX0 15 "GoalLifts$Callers" "goal" "[I", Cond.fieldLink RX0 18 "GoalLifts$Callers" "phase" "[I", Cond.fieldLink RX0 21 "GoalLifts$Callers" "given" "[I", Cond.fieldLink RX0 24 "GoalLifts$Callers" "calledAt" "[I", Cond.fieldLink RX0 27 "GoalLifts$Callers" "rodeAt" "[I", Cond.fieldLink RX0 30 "GoalLifts$Callers" "thereAt" "[I", Cond.fieldLink RX0 33 "GoalLifts$Callers" "timesGiven" "[I", Cond.methodLink RX2 26 yJ9_floorMod_7cf53, Cond.static yJ9_floorMod_7cf53, Cond.initialized RJ9, Cond.code yJ9_floorMod_7cf53 cJ9_floorMod_7cf53 3 (some .int), Cond.methodLink RX4 68 yX3_breakCar, Cond.instanceMethod yX3_breakCar, Cond.selects RX3 yX3_breakCar yX3_breakCar, Cond.code yX3_breakCar cX3_breakCar 2 none, Cond.fieldLink RX3 56 "GoalLifts$Cars" "state" "[I"]
def wsX4_fail_r4 : List Cond := [Cond.fieldLink RX3 67 "GoalLifts$Cars" "floor" "[I", Cond.methodLink RX3 134 yX0_loseCar, Cond.instanceMethod yX0_loseCar, Cond.selects RX0 yX0_loseCar yX0_loseCar, Cond.code yX0_loseCar cX0_loseCar 6 none, Cond.methodLink RX0 58 yX0_rides, Cond.instanceMethod yX0_rides, Cond.selects RX0 yX0_rides yX0_rides, Cond.code yX0_rides cX0_rides 3 (some .boolean), Cond.methodLink RX0 54 yX0_waitsFor, Cond.instanceMethod yX0_waitsFor, Cond.selects RX0 yX0_waitsFor yX0_waitsFor, Cond.code yX0_waitsFor cX0_waitsFor 3 (some .boolean), Cond.methodLink RX4 72 yX0_numberIn, Cond.instanceMethod yX0_numberIn, Cond.selects RX0 yX0_numberIn yX0_numberIn, Cond.code yX0_numberIn cX0_numberIn 4 (some .int)]
def wsX4_fail : List Cond := .code yX4_fail cX4_fail 2 (some .int) :: ((wsX4_fail_r1 ++ (wsX4_fail_r2 ++ (wsX4_fail_r3 ++ wsX4_fail_r4))) ++ wsX40 ++ wsX30 ++ wsX10 ++ wsX20 ++ wsX00)
def wsX4_repair_r1 : List Cond := [Cond.fieldLink RX4 10 "GoalLifts" "house" "LGoalLifts$House;", Cond.fieldLink RX4 30 "GoalLifts$House" "cars" "LGoalLifts$Cars;", Cond.fieldLink RX4 55 "GoalLifts$Cars" "state" "[I", Cond.fieldLink RX4 22 "GoalLifts" "history" "LGoalLifts$History;", Cond.fieldLink RX4 75 "GoalLifts$Cars" "floor" "[I", Cond.methodLink RX4 52 yX1_has, Cond.instanceMethod yX1_has, Cond.selects RX1 yX1_has yX1_has, Cond.initialized RX1, Cond.code yX1_has cX1_has 2 (some .boolean), Cond.fieldLink RX1 30 "GoalLifts$Cars" "count" "I", Cond.methodLink RX4 40 yX2_keep, Cond.instanceMethod yX2_keep, Cond.selects RX2 yX2_keep yX2_keep, Cond.initialized RX2, Cond.code yX2_keep cX2_keep 3 none, Cond.fieldLink RX2 11 "GoalLifts$History" "states" "[LGoalLifts$House;", Cond.fieldLink RX2 18 "GoalLifts$History" "next" "I", Cond.fieldLink RX2 32 "GoalLifts$History" "count" "I", Cond.methodLink RX2 35 Lib.Math.min.name, Cond.static Lib.Math.min.name, Cond.initialized "java/lang/Math", Cond.code Lib.Math.min.name Lib.Math.min.code 2 (some .int), Cond.methodLink RX2 22 yX3_copyFrom]
def wsX4_repair_r2 : List Cond := [Cond.instanceMethod yX3_copyFrom, Cond.selects RX3 yX3_copyFrom yX3_copyFrom, Cond.initialized RX3, Cond.code yX3_copyFrom cX3_copyFrom 2 none, Cond.fieldLink RX3 29 "GoalLifts$House" "tick" "I", Cond.fieldLink RX3 9 "GoalLifts$House" "awake" "[I", Cond.methodLink RX3 33 arraycopyName, Cond.native arraycopyName, Cond.static arraycopyName, Cond.initialized "java/lang/System", Cond.fieldLink RX3 18 "GoalLifts$House" "cars" "LGoalLifts$Cars;", Cond.fieldLink RX3 25 "GoalLifts$House" "callers" "LGoalLifts$Callers;", Cond.methodLink RX3 39 yX1_copyFrom, Cond.instanceMethod yX1_copyFrom, Cond.selects RX1 yX1_copyFrom yX1_copyFrom, Cond.code yX1_copyFrom cX1_copyFrom 2 none, Cond.fieldLink RX1 34 "GoalLifts$Cars" "stopsMade" "I", Cond.fieldLink RX1 9 "GoalLifts$Cars" "lowest" "[I", Cond.methodLink RX1 37 arraycopyName, Cond.fieldLink RX1 15 "GoalLifts$Cars" "highest" "[I", Cond.fieldLink RX1 18 "GoalLifts$Cars" "places" "[I", Cond.fieldLink RX1 21 "GoalLifts$Cars" "floor" "[I", Cond.fieldLink RX1 24 "GoalLifts$Cars" "state" "[I", Cond.fieldLink RX1 27 "GoalLifts$Cars" "travelled" "[I"]
def wsX4_repair_r3 : List Cond := [Cond.methodLink RX3 43 yX0_copyFrom, Cond.instanceMethod yX0_copyFrom, Cond.selects RX0 yX0_copyFrom yX0_copyFrom, Cond.initialized RX0, Cond.code yX0_copyFrom cX0_copyFrom 2 none, Cond.fieldLink RX0 36 "GoalLifts$Callers" "count" "I", Cond.fieldLink RX0 9 "GoalLifts$Callers" "floor" "[I", Cond.methodLink RX0 40 arraycopyName, Cond.fieldLink RX0 15 "GoalLifts$Callers" "goal" "[I", Cond.fieldLink RX0 18 "GoalLifts$Callers" "phase" "[I", Cond.fieldLink RX0 21 "GoalLifts$Callers" "given" "[I", Cond.fieldLink RX0 24 "GoalLifts$Callers" "calledAt" "[I", Cond.fieldLink RX0 27 "GoalLifts$Callers" "rodeAt" "[I", Cond.fieldLink RX0 30 "GoalLifts$Callers" "thereAt" "[I", Cond.fieldLink RX0 33 "GoalLifts$Callers" "timesGiven" "[I", Cond.methodLink RX2 26 yJ9_floorMod_7cf53, Cond.static yJ9_floorMod_7cf53, Cond.initialized RJ9, Cond.code yJ9_floorMod_7cf53 cJ9_floorMod_7cf53 3 (some .int)]
def wsX4_repair : List Cond := .code yX4_repair cX4_repair 2 (some .int) :: ((wsX4_repair_r1 ++ (wsX4_repair_r2 ++ wsX4_repair_r3)) ++ wsX40 ++ wsX30 ++ wsX10 ++ wsX20 ++ wsX00)
def wsX4_isWay : List Cond := .code yX4_isWay cX4_isWay 2 (some .boolean) :: ([.methodLink RX4 26 yX4_isFloor, .static yX4_isFloor, .initialized RX4, .code yX4_isFloor cX4_isFloor 1 (some .boolean)])
def wsX4_call_r1 : List Cond := [Cond.fieldLink RX4 10 "GoalLifts" "house" "LGoalLifts$House;", Cond.fieldLink RX4 58 "GoalLifts$House" "callers" "LGoalLifts$Callers;", Cond.fieldLink RX4 82 "GoalLifts$Callers" "count" "I", Cond.fieldLink RX4 22 "GoalLifts" "history" "LGoalLifts$History;", Cond.fieldLink RX4 87 "GoalLifts$House" "tick" "I", Cond.methodLink RX4 78 yX4_isWay, Cond.static yX4_isWay, Cond.initialized RX4, Cond.code yX4_isWay cX4_isWay 2 (some .boolean), Cond.methodLink RX4 26 yX4_isFloor, Cond.static yX4_isFloor, Cond.code yX4_isFloor cX4_isFloor 1 (some .boolean), Cond.methodLink RX4 40 yX2_keep, Cond.instanceMethod yX2_keep, Cond.selects RX2 yX2_keep yX2_keep, Cond.initialized RX2, Cond.code yX2_keep cX2_keep 3 none, Cond.fieldLink RX2 11 "GoalLifts$History" "states" "[LGoalLifts$House;", Cond.fieldLink RX2 18 "GoalLifts$History" "next" "I", Cond.fieldLink RX2 32 "GoalLifts$History" "count" "I", Cond.methodLink RX2 35 Lib.Math.min.name, Cond.static Lib.Math.min.name, Cond.initialized "java/lang/Math", Cond.code Lib.Math.min.name Lib.Math.min.code 2 (some .int)]
def wsX4_call_r2 : List Cond := [Cond.methodLink RX2 22 yX3_copyFrom, Cond.instanceMethod yX3_copyFrom, Cond.selects RX3 yX3_copyFrom yX3_copyFrom, Cond.initialized RX3, Cond.code yX3_copyFrom cX3_copyFrom 2 none, Cond.fieldLink RX3 29 "GoalLifts$House" "tick" "I", Cond.fieldLink RX3 9 "GoalLifts$House" "awake" "[I", Cond.methodLink RX3 33 arraycopyName, Cond.native arraycopyName, Cond.static arraycopyName, Cond.initialized "java/lang/System", Cond.fieldLink RX3 18 "GoalLifts$House" "cars" "LGoalLifts$Cars;", Cond.fieldLink RX3 25 "GoalLifts$House" "callers" "LGoalLifts$Callers;", Cond.methodLink RX3 39 yX1_copyFrom, Cond.instanceMethod yX1_copyFrom, Cond.selects RX1 yX1_copyFrom yX1_copyFrom, Cond.initialized RX1, Cond.code yX1_copyFrom cX1_copyFrom 2 none, Cond.fieldLink RX1 30 "GoalLifts$Cars" "count" "I", Cond.fieldLink RX1 34 "GoalLifts$Cars" "stopsMade" "I", Cond.fieldLink RX1 9 "GoalLifts$Cars" "lowest" "[I", Cond.methodLink RX1 37 arraycopyName, Cond.fieldLink RX1 15 "GoalLifts$Cars" "highest" "[I", Cond.fieldLink RX1 18 "GoalLifts$Cars" "places" "[I"]
def wsX4_call_r3 : List Cond := [Cond.fieldLink RX1 21 "GoalLifts$Cars" "floor" "[I", Cond.fieldLink RX1 24 "GoalLifts$Cars" "state" "[I", Cond.fieldLink RX1 27 "GoalLifts$Cars" "travelled" "[I", Cond.methodLink RX3 43 yX0_copyFrom, Cond.instanceMethod yX0_copyFrom, Cond.selects RX0 yX0_copyFrom yX0_copyFrom, Cond.initialized RX0, Cond.code yX0_copyFrom cX0_copyFrom 2 none, Cond.fieldLink RX0 36 "GoalLifts$Callers" "count" "I", Cond.fieldLink RX0 9 "GoalLifts$Callers" "floor" "[I", Cond.methodLink RX0 40 arraycopyName, Cond.fieldLink RX0 15 "GoalLifts$Callers" "goal" "[I", Cond.fieldLink RX0 18 "GoalLifts$Callers" "phase" "[I", Cond.fieldLink RX0 21 "GoalLifts$Callers" "given" "[I", Cond.fieldLink RX0 24 "GoalLifts$Callers" "calledAt" "[I", Cond.fieldLink RX0 27 "GoalLifts$Callers" "rodeAt" "[I", Cond.fieldLink RX0 30 "GoalLifts$Callers" "thereAt" "[I", Cond.fieldLink RX0 33 "GoalLifts$Callers" "timesGiven" "[I", Cond.methodLink RX2 26 yJ9_floorMod_7cf53, Cond.static yJ9_floorMod_7cf53, Cond.initialized RJ9, Cond.code yJ9_floorMod_7cf53 cJ9_floorMod_7cf53 3 (some .int), Cond.methodLink RX4 83 yX3_bestCar, Cond.instanceMethod yX3_bestCar]
def wsX4_call_r4 : List Cond := [Cond.selects RX3 yX3_bestCar yX3_bestCar, Cond.code yX3_bestCar cX3_bestCar 7 (some .int), Cond.fieldLink RX3 85 "GoalLifts$Cars" "count" "I", Cond.methodLink RX3 88 yX3_canBeGiven, Cond.instanceMethod yX3_canBeGiven, Cond.selects RX3 yX3_canBeGiven yX3_canBeGiven, Cond.code yX3_canBeGiven cX3_canBeGiven 4 (some .boolean), Cond.fieldLink RX3 56 "GoalLifts$Cars" "state" "[I", Cond.methodLink RX3 59 yX3_isAwake, Cond.instanceMethod yX3_isAwake, Cond.selects RX3 yX3_isAwake yX3_isAwake, Cond.code yX3_isAwake cX3_isAwake 2 (some .boolean), Cond.methodLink RX3 52 yX3_hour, Cond.instanceMethod yX3_hour, Cond.selects RX3 yX3_hour yX3_hour, Cond.code yX3_hour cX3_hour 1 (some .int), Cond.methodLink RX3 46 yJ9_floorMod_7cf53, Cond.methodLink RX3 63 yX1_serves, Cond.instanceMethod yX1_serves, Cond.selects RX1 yX1_serves yX1_serves, Cond.code yX1_serves cX1_serves 3 (some .boolean), Cond.methodLink RX3 92 yX3_costOf, Cond.instanceMethod yX3_costOf, Cond.selects RX3 yX3_costOf yX3_costOf]
def wsX4_call_r5 : List Cond := [Cond.code yX3_costOf cX3_costOf 6 (some .int), Cond.fieldLink RX3 67 "GoalLifts$Cars" "floor" "[I", Cond.methodLink RX3 70 Lib.Math.abs.name, Cond.static Lib.Math.abs.name, Cond.code Lib.Math.abs.name Lib.Math.abs.code 1 (some .int), Cond.methodLink RX3 74 yX0_stopsOf, Cond.instanceMethod yX0_stopsOf, Cond.selects RX0 yX0_stopsOf yX0_stopsOf, Cond.code yX0_stopsOf cX0_stopsOf 4 (some .int), Cond.methodLink RX0 54 yX0_waitsFor, Cond.instanceMethod yX0_waitsFor, Cond.selects RX0 yX0_waitsFor yX0_waitsFor, Cond.code yX0_waitsFor cX0_waitsFor 3 (some .boolean), Cond.methodLink RX0 58 yX0_rides, Cond.instanceMethod yX0_rides, Cond.selects RX0 yX0_rides yX0_rides, Cond.code yX0_rides cX0_rides 3 (some .boolean), Cond.methodLink RX3 77 yJ6_bitCount_0f7a4, Cond.static yJ6_bitCount_0f7a4, Cond.initialized RJ6, Cond.code yJ6_bitCount_0f7a4 cJ6_bitCount_0f7a4 1 (some .int), Cond.constant RJ6 265 (1431655765), Cond.constant RJ6 266 (858993459), Cond.constant RJ6 267 (252645135)]
def wsX4_call_r6 : List Cond := [Cond.methodLink RX3 82 yX0_numberWith, Cond.instanceMethod yX0_numberWith, Cond.selects RX0 yX0_numberWith yX0_numberWith, Cond.code yX0_numberWith cX0_numberWith 2 (some .int), Cond.methodLink RX0 50 yX0_numberOf, Cond.instanceMethod yX0_numberOf, Cond.selects RX0 yX0_numberOf yX0_numberOf, Cond.code yX0_numberOf cX0_numberOf 5 (some .int), Cond.methodLink RX4 90 yX0_add, Cond.instanceMethod yX0_add, Cond.selects RX0 yX0_add yX0_add, Cond.code yX0_add cX0_add 5 (some .int), Cond.methodLink RX4 91 yX0_give, Cond.instanceMethod yX0_give, Cond.selects RX0 yX0_give yX0_give, Cond.code yX0_give cX0_give 3 none, Cond.methodLink RX0 46 yX0_has, Cond.instanceMethod yX0_has, Cond.selects RX0 yX0_has yX0_has, Cond.code yX0_has cX0_has 2 (some .boolean)]
def wsX4_call : List Cond := .code yX4_call cX4_call 5 (some .int) :: ((wsX4_call_r1 ++ (wsX4_call_r2 ++ (wsX4_call_r3 ++ (wsX4_call_r4 ++ (wsX4_call_r5 ++ wsX4_call_r6))))) ++ wsX40 ++ wsX30 ++ wsX00 ++ wsX20 ++ wsX10)
def wsX4_pass_r1 : List Cond := [Cond.fieldLink RX4 10 "GoalLifts" "house" "LGoalLifts$House;", Cond.fieldLink RX4 87 "GoalLifts$House" "tick" "I", Cond.fieldLink RX4 22 "GoalLifts" "history" "LGoalLifts$History;", Cond.fieldLink RX4 58 "GoalLifts$House" "callers" "LGoalLifts$Callers;", Cond.methodLink RX4 40 yX2_keep, Cond.instanceMethod yX2_keep, Cond.selects RX2 yX2_keep yX2_keep, Cond.initialized RX2, Cond.code yX2_keep cX2_keep 3 none, Cond.fieldLink RX2 11 "GoalLifts$History" "states" "[LGoalLifts$House;", Cond.fieldLink RX2 18 "GoalLifts$History" "next" "I", Cond.fieldLink RX2 32 "GoalLifts$History" "count" "I", Cond.methodLink RX2 35 Lib.Math.min.name, Cond.static Lib.Math.min.name, Cond.initialized "java/lang/Math", Cond.code Lib.Math.min.name Lib.Math.min.code 2 (some .int), Cond.methodLink RX2 22 yX3_copyFrom, Cond.instanceMethod yX3_copyFrom, Cond.selects RX3 yX3_copyFrom yX3_copyFrom, Cond.initialized RX3, Cond.code yX3_copyFrom cX3_copyFrom 2 none, Cond.fieldLink RX3 29 "GoalLifts$House" "tick" "I", Cond.fieldLink RX3 9 "GoalLifts$House" "awake" "[I", Cond.methodLink RX3 33 arraycopyName]
def wsX4_pass_r2 : List Cond := [Cond.native arraycopyName, Cond.static arraycopyName, Cond.initialized "java/lang/System", Cond.fieldLink RX3 18 "GoalLifts$House" "cars" "LGoalLifts$Cars;", Cond.fieldLink RX3 25 "GoalLifts$House" "callers" "LGoalLifts$Callers;", Cond.methodLink RX3 39 yX1_copyFrom, Cond.instanceMethod yX1_copyFrom, Cond.selects RX1 yX1_copyFrom yX1_copyFrom, Cond.initialized RX1, Cond.code yX1_copyFrom cX1_copyFrom 2 none, Cond.fieldLink RX1 30 "GoalLifts$Cars" "count" "I", Cond.fieldLink RX1 34 "GoalLifts$Cars" "stopsMade" "I", Cond.fieldLink RX1 9 "GoalLifts$Cars" "lowest" "[I", Cond.methodLink RX1 37 arraycopyName, Cond.fieldLink RX1 15 "GoalLifts$Cars" "highest" "[I", Cond.fieldLink RX1 18 "GoalLifts$Cars" "places" "[I", Cond.fieldLink RX1 21 "GoalLifts$Cars" "floor" "[I", Cond.fieldLink RX1 24 "GoalLifts$Cars" "state" "[I", Cond.fieldLink RX1 27 "GoalLifts$Cars" "travelled" "[I", Cond.methodLink RX3 43 yX0_copyFrom, Cond.instanceMethod yX0_copyFrom, Cond.selects RX0 yX0_copyFrom yX0_copyFrom, Cond.initialized RX0, Cond.code yX0_copyFrom cX0_copyFrom 2 none]
def wsX4_pass_r3 : List Cond := [Cond.fieldLink RX0 36 "GoalLifts$Callers" "count" "I", Cond.fieldLink RX0 9 "GoalLifts$Callers" "floor" "[I", Cond.methodLink RX0 40 arraycopyName, Cond.fieldLink RX0 15 "GoalLifts$Callers" "goal" "[I", Cond.fieldLink RX0 18 "GoalLifts$Callers" "phase" "[I", Cond.fieldLink RX0 21 "GoalLifts$Callers" "given" "[I", Cond.fieldLink RX0 24 "GoalLifts$Callers" "calledAt" "[I", Cond.fieldLink RX0 27 "GoalLifts$Callers" "rodeAt" "[I", Cond.fieldLink RX0 30 "GoalLifts$Callers" "thereAt" "[I", Cond.fieldLink RX0 33 "GoalLifts$Callers" "timesGiven" "[I", Cond.methodLink RX2 26 yJ9_floorMod_7cf53, Cond.static yJ9_floorMod_7cf53, Cond.initialized RJ9, Cond.code yJ9_floorMod_7cf53 cJ9_floorMod_7cf53 3 (some .int), Cond.methodLink RX4 95 yX3_oneTick, Cond.instanceMethod yX3_oneTick, Cond.selects RX3 yX3_oneTick yX3_oneTick, Cond.code yX3_oneTick cX3_oneTick 2 none, Cond.fieldLink RX3 96 "GoalLifts$Callers" "count" "I", Cond.fieldLink RX3 97 "GoalLifts$Callers" "phase" "[I", Cond.fieldLink RX3 100 "GoalLifts$Callers" "floor" "[I", Cond.fieldLink RX3 101 "GoalLifts$Callers" "goal" "[I", Cond.fieldLink RX3 85 "GoalLifts$Cars" "count" "I", Cond.fieldLink RX3 56 "GoalLifts$Cars" "state" "[I"]
def wsX4_pass_r4 : List Cond := [Cond.methodLink RX3 104 yX3_bestCar, Cond.instanceMethod yX3_bestCar, Cond.selects RX3 yX3_bestCar yX3_bestCar, Cond.code yX3_bestCar cX3_bestCar 7 (some .int), Cond.methodLink RX3 88 yX3_canBeGiven, Cond.instanceMethod yX3_canBeGiven, Cond.selects RX3 yX3_canBeGiven yX3_canBeGiven, Cond.code yX3_canBeGiven cX3_canBeGiven 4 (some .boolean), Cond.methodLink RX3 59 yX3_isAwake, Cond.instanceMethod yX3_isAwake, Cond.selects RX3 yX3_isAwake yX3_isAwake, Cond.code yX3_isAwake cX3_isAwake 2 (some .boolean), Cond.methodLink RX3 52 yX3_hour, Cond.instanceMethod yX3_hour, Cond.selects RX3 yX3_hour yX3_hour, Cond.code yX3_hour cX3_hour 1 (some .int), Cond.methodLink RX3 46 yJ9_floorMod_7cf53, Cond.methodLink RX3 63 yX1_serves, Cond.instanceMethod yX1_serves, Cond.selects RX1 yX1_serves yX1_serves, Cond.code yX1_serves cX1_serves 3 (some .boolean), Cond.methodLink RX3 92 yX3_costOf, Cond.instanceMethod yX3_costOf, Cond.selects RX3 yX3_costOf yX3_costOf]
def wsX4_pass_r5 : List Cond := [Cond.code yX3_costOf cX3_costOf 6 (some .int), Cond.fieldLink RX3 67 "GoalLifts$Cars" "floor" "[I", Cond.methodLink RX3 70 Lib.Math.abs.name, Cond.static Lib.Math.abs.name, Cond.code Lib.Math.abs.name Lib.Math.abs.code 1 (some .int), Cond.methodLink RX3 74 yX0_stopsOf, Cond.instanceMethod yX0_stopsOf, Cond.selects RX0 yX0_stopsOf yX0_stopsOf, Cond.code yX0_stopsOf cX0_stopsOf 4 (some .int), Cond.methodLink RX0 54 yX0_waitsFor, Cond.instanceMethod yX0_waitsFor, Cond.selects RX0 yX0_waitsFor yX0_waitsFor, Cond.code yX0_waitsFor cX0_waitsFor 3 (some .boolean), Cond.methodLink RX0 58 yX0_rides, Cond.instanceMethod yX0_rides, Cond.selects RX0 yX0_rides yX0_rides, Cond.code yX0_rides cX0_rides 3 (some .boolean), Cond.methodLink RX3 77 yJ6_bitCount_0f7a4, Cond.static yJ6_bitCount_0f7a4, Cond.initialized RJ6, Cond.code yJ6_bitCount_0f7a4 cJ6_bitCount_0f7a4 1 (some .int), Cond.constant RJ6 265 (1431655765), Cond.constant RJ6 266 (858993459), Cond.constant RJ6 267 (252645135)]
def wsX4_pass_r6 : List Cond := [Cond.methodLink RX3 82 yX0_numberWith, Cond.instanceMethod yX0_numberWith, Cond.selects RX0 yX0_numberWith yX0_numberWith, Cond.code yX0_numberWith cX0_numberWith 2 (some .int), Cond.methodLink RX0 50 yX0_numberOf, Cond.instanceMethod yX0_numberOf, Cond.selects RX0 yX0_numberOf yX0_numberOf, Cond.code yX0_numberOf cX0_numberOf 5 (some .int), Cond.methodLink RX3 107 yX0_give, Cond.instanceMethod yX0_give, Cond.selects RX0 yX0_give yX0_give, Cond.code yX0_give cX0_give 3 none, Cond.methodLink RX0 46 yX0_has, Cond.instanceMethod yX0_has, Cond.selects RX0 yX0_has yX0_has, Cond.code yX0_has cX0_has 2 (some .boolean), Cond.methodLink RX3 111 yX3_stopOrTravel, Cond.instanceMethod yX3_stopOrTravel, Cond.selects RX3 yX3_stopOrTravel yX3_stopOrTravel, Cond.code yX3_stopOrTravel cX3_stopOrTravel 6 none, Cond.fieldLink RX3 118 "GoalLifts$Cars" "places" "[I", Cond.fieldLink RX3 125 "GoalLifts$Cars" "stopsMade" "I", Cond.methodLink RX3 115 yX0_letOut, Cond.instanceMethod yX0_letOut]
def wsX4_pass_r7 : List Cond := [Cond.selects RX0 yX0_letOut yX0_letOut, Cond.code yX0_letOut cX0_letOut 6 (some .int), Cond.methodLink RX3 121 yX0_takeIn, Cond.instanceMethod yX0_takeIn, Cond.selects RX0 yX0_takeIn yX0_takeIn, Cond.code yX0_takeIn cX0_takeIn 8 (some .int), Cond.methodLink RX3 128 yX0_aimOf, Cond.instanceMethod yX0_aimOf, Cond.selects RX0 yX0_aimOf yX0_aimOf, Cond.code yX0_aimOf cX0_aimOf 6 (some .int), Cond.methodLink RX0 61 yX0_isNearer, Cond.static yX0_isNearer, Cond.code yX0_isNearer cX0_isNearer 5 (some .boolean), Cond.methodLink RX0 65 Lib.Math.abs.name, Cond.methodLink RX3 131 yX1_travelTowards, Cond.instanceMethod yX1_travelTowards, Cond.selects RX1 yX1_travelTowards yX1_travelTowards, Cond.code yX1_travelTowards cX1_travelTowards 3 none, Cond.methodLink RX4 72 yX0_numberIn, Cond.instanceMethod yX0_numberIn, Cond.selects RX0 yX0_numberIn yX0_numberIn, Cond.code yX0_numberIn cX0_numberIn 4 (some .int)]
def wsX4_pass : List Cond := .code yX4_pass cX4_pass 3 (some .int) :: ((wsX4_pass_r1 ++ (wsX4_pass_r2 ++ (wsX4_pass_r3 ++ (wsX4_pass_r4 ++ (wsX4_pass_r5 ++ (wsX4_pass_r6 ++ wsX4_pass_r7)))))) ++ wsX40 ++ wsX30 ++ wsX20 ++ wsX10 ++ wsX00)
def wsX4_undo_r1 : List Cond := [Cond.fieldLink RX4 22 "GoalLifts" "history" "LGoalLifts$History;", Cond.fieldLink RX4 98 "GoalLifts$History" "count" "I", Cond.fieldLink RX4 10 "GoalLifts" "house" "LGoalLifts$House;", Cond.methodLink RX4 99 yX2_restore, Cond.instanceMethod yX2_restore, Cond.selects RX2 yX2_restore yX2_restore, Cond.initialized RX2, Cond.code yX2_restore cX2_restore 4 none, Cond.fieldLink RX2 18 "GoalLifts$History" "next" "I", Cond.fieldLink RX2 11 "GoalLifts$History" "states" "[LGoalLifts$House;", Cond.fieldLink RX2 32 "GoalLifts$History" "count" "I", Cond.methodLink RX2 26 yJ9_floorMod_7cf53, Cond.static yJ9_floorMod_7cf53, Cond.initialized RJ9, Cond.code yJ9_floorMod_7cf53 cJ9_floorMod_7cf53 3 (some .int), Cond.methodLink RX2 22 yX3_copyFrom, Cond.instanceMethod yX3_copyFrom, Cond.selects RX3 yX3_copyFrom yX3_copyFrom, Cond.initialized RX3, Cond.code yX3_copyFrom cX3_copyFrom 2 none, Cond.fieldLink RX3 29 "GoalLifts$House" "tick" "I", Cond.fieldLink RX3 9 "GoalLifts$House" "awake" "[I", Cond.methodLink RX3 33 arraycopyName, Cond.native arraycopyName]
def wsX4_undo_r2 : List Cond := [Cond.static arraycopyName, Cond.initialized "java/lang/System", Cond.fieldLink RX3 18 "GoalLifts$House" "cars" "LGoalLifts$Cars;", Cond.fieldLink RX3 25 "GoalLifts$House" "callers" "LGoalLifts$Callers;", Cond.methodLink RX3 39 yX1_copyFrom, Cond.instanceMethod yX1_copyFrom, Cond.selects RX1 yX1_copyFrom yX1_copyFrom, Cond.initialized RX1, Cond.code yX1_copyFrom cX1_copyFrom 2 none, Cond.fieldLink RX1 30 "GoalLifts$Cars" "count" "I", Cond.fieldLink RX1 34 "GoalLifts$Cars" "stopsMade" "I", Cond.fieldLink RX1 9 "GoalLifts$Cars" "lowest" "[I", Cond.methodLink RX1 37 arraycopyName, Cond.fieldLink RX1 15 "GoalLifts$Cars" "highest" "[I", Cond.fieldLink RX1 18 "GoalLifts$Cars" "places" "[I", Cond.fieldLink RX1 21 "GoalLifts$Cars" "floor" "[I", Cond.fieldLink RX1 24 "GoalLifts$Cars" "state" "[I", Cond.fieldLink RX1 27 "GoalLifts$Cars" "travelled" "[I", Cond.methodLink RX3 43 yX0_copyFrom, Cond.instanceMethod yX0_copyFrom, Cond.selects RX0 yX0_copyFrom yX0_copyFrom, Cond.initialized RX0, Cond.code yX0_copyFrom cX0_copyFrom 2 none, Cond.fieldLink RX0 36 "GoalLifts$Callers" "count" "I"]
def wsX4_undo_r3 : List Cond := [Cond.fieldLink RX0 9 "GoalLifts$Callers" "floor" "[I", Cond.methodLink RX0 40 arraycopyName, Cond.fieldLink RX0 15 "GoalLifts$Callers" "goal" "[I", Cond.fieldLink RX0 18 "GoalLifts$Callers" "phase" "[I", Cond.fieldLink RX0 21 "GoalLifts$Callers" "given" "[I", Cond.fieldLink RX0 24 "GoalLifts$Callers" "calledAt" "[I", Cond.fieldLink RX0 27 "GoalLifts$Callers" "rodeAt" "[I", Cond.fieldLink RX0 30 "GoalLifts$Callers" "thereAt" "[I", Cond.fieldLink RX0 33 "GoalLifts$Callers" "timesGiven" "[I"]
def wsX4_undo : List Cond := .code yX4_undo cX4_undo 1 (some .int) :: ((wsX4_undo_r1 ++ (wsX4_undo_r2 ++ wsX4_undo_r3)) ++ wsX40 ++ wsX20 ++ wsX30 ++ wsX10 ++ wsX00)
def wsX4_count_r1 : List Cond := [Cond.fieldLink RX4 10 "GoalLifts" "house" "LGoalLifts$House;", Cond.fieldLink RX4 87 "GoalLifts$House" "tick" "I", Cond.fieldLink RX4 30 "GoalLifts$House" "cars" "LGoalLifts$Cars;", Cond.fieldLink RX4 34 "GoalLifts$Cars" "count" "I", Cond.fieldLink RX4 58 "GoalLifts$House" "callers" "LGoalLifts$Callers;", Cond.fieldLink RX4 82 "GoalLifts$Callers" "count" "I", Cond.fieldLink RX4 112 "GoalLifts$Cars" "stopsMade" "I", Cond.fieldLink RX4 22 "GoalLifts" "history" "LGoalLifts$History;", Cond.fieldLink RX4 98 "GoalLifts$History" "count" "I", Cond.methodLink RX4 102 yX3_hour, Cond.instanceMethod yX3_hour, Cond.selects RX3 yX3_hour yX3_hour, Cond.initialized RX3, Cond.code yX3_hour cX3_hour 1 (some .int), Cond.fieldLink RX3 29 "GoalLifts$House" "tick" "I", Cond.methodLink RX3 46 yJ9_floorMod_7cf53, Cond.static yJ9_floorMod_7cf53, Cond.initialized RJ9, Cond.code yJ9_floorMod_7cf53 cJ9_floorMod_7cf53 3 (some .int), Cond.methodLink RX4 72 yX0_numberIn, Cond.instanceMethod yX0_numberIn, Cond.selects RX0 yX0_numberIn yX0_numberIn, Cond.initialized RX0, Cond.code yX0_numberIn cX0_numberIn 4 (some .int)]
def wsX4_count_r2 : List Cond := [Cond.fieldLink RX0 36 "GoalLifts$Callers" "count" "I", Cond.fieldLink RX0 18 "GoalLifts$Callers" "phase" "[I", Cond.methodLink RX4 106 yX0_numberOfGroups, Cond.instanceMethod yX0_numberOfGroups, Cond.selects RX0 yX0_numberOfGroups yX0_numberOfGroups, Cond.code yX0_numberOfGroups cX0_numberOfGroups 3 (some .int), Cond.methodLink RX0 77 yX0_isFirstOfGroup, Cond.instanceMethod yX0_isFirstOfGroup, Cond.selects RX0 yX0_isFirstOfGroup yX0_isFirstOfGroup, Cond.code yX0_isFirstOfGroup cX0_isFirstOfGroup 3 (some .boolean), Cond.methodLink RX0 74 yX0_sameGroup, Cond.instanceMethod yX0_sameGroup, Cond.selects RX0 yX0_sameGroup yX0_sameGroup, Cond.code yX0_sameGroup cX0_sameGroup 3 (some .boolean), Cond.fieldLink RX0 9 "GoalLifts$Callers" "floor" "[I", Cond.fieldLink RX0 15 "GoalLifts$Callers" "goal" "[I", Cond.methodLink RX0 71 yX0_isInGroup, Cond.instanceMethod yX0_isInGroup, Cond.selects RX0 yX0_isInGroup yX0_isInGroup, Cond.code yX0_isInGroup cX0_isInGroup 2 (some .boolean), Cond.methodLink RX4 109 yX1_travelledByAll, Cond.instanceMethod yX1_travelledByAll, Cond.selects RX1 yX1_travelledByAll yX1_travelledByAll, Cond.initialized RX1]
def wsX4_count_r3 : List Cond := [Cond.code yX1_travelledByAll cX1_travelledByAll 3 (some .int), Cond.fieldLink RX1 30 "GoalLifts$Cars" "count" "I", Cond.fieldLink RX1 27 "GoalLifts$Cars" "travelled" "[I", Cond.methodLink RX4 115 yX1_numberIn, Cond.instanceMethod yX1_numberIn, Cond.selects RX1 yX1_numberIn yX1_numberIn, Cond.code yX1_numberIn cX1_numberIn 4 (some .int), Cond.fieldLink RX1 24 "GoalLifts$Cars" "state" "[I"]
def wsX4_count : List Cond := .code yX4_count cX4_count 2 (some .int) :: ((wsX4_count_r1 ++ (wsX4_count_r2 ++ wsX4_count_r3)) ++ wsX40 ++ wsX30 ++ wsX10 ++ wsX00 ++ wsX20)
def wsX4_car_r1 : List Cond := [Cond.fieldLink RX4 10 "GoalLifts" "house" "LGoalLifts$House;", Cond.fieldLink RX4 30 "GoalLifts$House" "cars" "LGoalLifts$Cars;", Cond.fieldLink RX4 75 "GoalLifts$Cars" "floor" "[I", Cond.fieldLink RX4 55 "GoalLifts$Cars" "state" "[I", Cond.fieldLink RX4 58 "GoalLifts$House" "callers" "LGoalLifts$Callers;", Cond.fieldLink RX4 130 "GoalLifts$Cars" "travelled" "[I", Cond.methodLink RX4 52 yX1_has, Cond.instanceMethod yX1_has, Cond.selects RX1 yX1_has yX1_has, Cond.initialized RX1, Cond.code yX1_has cX1_has 2 (some .boolean), Cond.fieldLink RX1 30 "GoalLifts$Cars" "count" "I", Cond.methodLink RX4 116 yX0_numberOf, Cond.instanceMethod yX0_numberOf, Cond.selects RX0 yX0_numberOf yX0_numberOf, Cond.initialized RX0, Cond.code yX0_numberOf cX0_numberOf 5 (some .int), Cond.fieldLink RX0 36 "GoalLifts$Callers" "count" "I", Cond.fieldLink RX0 18 "GoalLifts$Callers" "phase" "[I", Cond.fieldLink RX0 21 "GoalLifts$Callers" "given" "[I", Cond.methodLink RX4 119 yX0_stopsOf, Cond.instanceMethod yX0_stopsOf, Cond.selects RX0 yX0_stopsOf yX0_stopsOf, Cond.code yX0_stopsOf cX0_stopsOf 4 (some .int)]
def wsX4_car_r2 : List Cond := [Cond.fieldLink RX0 9 "GoalLifts$Callers" "floor" "[I", Cond.fieldLink RX0 15 "GoalLifts$Callers" "goal" "[I", Cond.methodLink RX0 54 yX0_waitsFor, Cond.instanceMethod yX0_waitsFor, Cond.selects RX0 yX0_waitsFor yX0_waitsFor, Cond.code yX0_waitsFor cX0_waitsFor 3 (some .boolean), Cond.methodLink RX0 58 yX0_rides, Cond.instanceMethod yX0_rides, Cond.selects RX0 yX0_rides yX0_rides, Cond.code yX0_rides cX0_rides 3 (some .boolean), Cond.methodLink RX4 122 yJ6_bitCount_0f7a4, Cond.static yJ6_bitCount_0f7a4, Cond.initialized RJ6, Cond.code yJ6_bitCount_0f7a4 cJ6_bitCount_0f7a4 1 (some .int), Cond.constant RJ6 265 (1431655765), Cond.constant RJ6 266 (858993459), Cond.constant RJ6 267 (252645135), Cond.methodLink RX4 127 yX0_aimOf, Cond.instanceMethod yX0_aimOf, Cond.selects RX0 yX0_aimOf yX0_aimOf, Cond.code yX0_aimOf cX0_aimOf 6 (some .int), Cond.methodLink RX0 61 yX0_isNearer, Cond.static yX0_isNearer, Cond.code yX0_isNearer cX0_isNearer 5 (some .boolean)]
def wsX4_car_r3 : List Cond := [Cond.methodLink RX0 65 Lib.Math.abs.name, Cond.static Lib.Math.abs.name, Cond.initialized "java/lang/Math", Cond.code Lib.Math.abs.name Lib.Math.abs.code 1 (some .int), Cond.methodLink RX4 133 yX3_isAwake, Cond.instanceMethod yX3_isAwake, Cond.selects RX3 yX3_isAwake yX3_isAwake, Cond.initialized RX3, Cond.code yX3_isAwake cX3_isAwake 2 (some .boolean), Cond.fieldLink RX3 9 "GoalLifts$House" "awake" "[I", Cond.methodLink RX3 52 yX3_hour, Cond.instanceMethod yX3_hour, Cond.selects RX3 yX3_hour yX3_hour, Cond.code yX3_hour cX3_hour 1 (some .int), Cond.fieldLink RX3 29 "GoalLifts$House" "tick" "I", Cond.methodLink RX3 46 yJ9_floorMod_7cf53, Cond.static yJ9_floorMod_7cf53, Cond.initialized RJ9, Cond.code yJ9_floorMod_7cf53 cJ9_floorMod_7cf53 3 (some .int)]
def wsX4_car : List Cond := .code yX4_car cX4_car 3 (some .int) :: ((wsX4_car_r1 ++ (wsX4_car_r2 ++ wsX4_car_r3)) ++ wsX40 ++ wsX30 ++ wsX10 ++ wsX00)
def wsX4_caller : List Cond := .code yX4_caller cX4_caller 3 (some .int) :: ([.fieldLink RX4 10 "GoalLifts" "house" "LGoalLifts$House;", .fieldLink RX4 58 "GoalLifts$House" "callers" "LGoalLifts$Callers;", .fieldLink RX4 137 "GoalLifts$Callers" "floor" "[I", .fieldLink RX4 138 "GoalLifts$Callers" "goal" "[I", .fieldLink RX4 141 "GoalLifts$Callers" "phase" "[I", .fieldLink RX4 144 "GoalLifts$Callers" "given" "[I", .fieldLink RX4 147 "GoalLifts$Callers" "calledAt" "[I", .fieldLink RX4 150 "GoalLifts$Callers" "rodeAt" "[I", .fieldLink RX4 153 "GoalLifts$Callers" "thereAt" "[I", .fieldLink RX4 156 "GoalLifts$Callers" "timesGiven" "[I", .methodLink RX4 136 yX0_has, .instanceMethod yX0_has, .selects RX0 yX0_has yX0_has, .initialized RX0, .code yX0_has cX0_has 2 (some .boolean), .fieldLink RX0 36 "GoalLifts$Callers" "count" "I"] ++ wsX40 ++ wsX30 ++ wsX00)
def wsX4_group_r1 : List Cond := [Cond.fieldLink RX4 10 "GoalLifts" "house" "LGoalLifts$House;", Cond.fieldLink RX4 58 "GoalLifts$House" "callers" "LGoalLifts$Callers;", Cond.fieldLink RX4 137 "GoalLifts$Callers" "floor" "[I", Cond.fieldLink RX4 138 "GoalLifts$Callers" "goal" "[I", Cond.methodLink RX4 159 yX0_firstOfGroup, Cond.instanceMethod yX0_firstOfGroup, Cond.selects RX0 yX0_firstOfGroup yX0_firstOfGroup, Cond.initialized RX0, Cond.code yX0_firstOfGroup cX0_firstOfGroup 4 (some .int), Cond.fieldLink RX0 36 "GoalLifts$Callers" "count" "I", Cond.methodLink RX0 77 yX0_isFirstOfGroup, Cond.instanceMethod yX0_isFirstOfGroup, Cond.selects RX0 yX0_isFirstOfGroup yX0_isFirstOfGroup, Cond.code yX0_isFirstOfGroup cX0_isFirstOfGroup 3 (some .boolean), Cond.methodLink RX0 74 yX0_sameGroup, Cond.instanceMethod yX0_sameGroup, Cond.selects RX0 yX0_sameGroup yX0_sameGroup, Cond.code yX0_sameGroup cX0_sameGroup 3 (some .boolean), Cond.fieldLink RX0 9 "GoalLifts$Callers" "floor" "[I", Cond.fieldLink RX0 15 "GoalLifts$Callers" "goal" "[I", Cond.methodLink RX0 71 yX0_isInGroup, Cond.instanceMethod yX0_isInGroup, Cond.selects RX0 yX0_isInGroup yX0_isInGroup, Cond.code yX0_isInGroup cX0_isInGroup 2 (some .boolean)]
def wsX4_group_r2 : List Cond := [Cond.fieldLink RX0 18 "GoalLifts$Callers" "phase" "[I", Cond.methodLink RX4 136 yX0_has, Cond.instanceMethod yX0_has, Cond.selects RX0 yX0_has yX0_has, Cond.code yX0_has cX0_has 2 (some .boolean), Cond.methodLink RX4 162 yX0_sizeOfGroup, Cond.instanceMethod yX0_sizeOfGroup, Cond.selects RX0 yX0_sizeOfGroup yX0_sizeOfGroup, Cond.code yX0_sizeOfGroup cX0_sizeOfGroup 4 (some .int)]
def wsX4_group : List Cond := .code yX4_group cX4_group 4 (some .int) :: ((wsX4_group_r1 ++ wsX4_group_r2) ++ wsX40 ++ wsX30 ++ wsX00)
def wsX4_cost_r1 : List Cond := [Cond.fieldLink RX4 10 "GoalLifts" "house" "LGoalLifts$House;", Cond.fieldLink RX4 30 "GoalLifts$House" "cars" "LGoalLifts$Cars;", Cond.methodLink RX4 52 yX1_has, Cond.instanceMethod yX1_has, Cond.selects RX1 yX1_has yX1_has, Cond.initialized RX1, Cond.code yX1_has cX1_has 2 (some .boolean), Cond.fieldLink RX1 30 "GoalLifts$Cars" "count" "I", Cond.methodLink RX4 78 yX4_isWay, Cond.static yX4_isWay, Cond.initialized RX4, Cond.code yX4_isWay cX4_isWay 2 (some .boolean), Cond.methodLink RX4 26 yX4_isFloor, Cond.static yX4_isFloor, Cond.code yX4_isFloor cX4_isFloor 1 (some .boolean), Cond.methodLink RX4 165 yX3_canBeGiven, Cond.instanceMethod yX3_canBeGiven, Cond.selects RX3 yX3_canBeGiven yX3_canBeGiven, Cond.initialized RX3, Cond.code yX3_canBeGiven cX3_canBeGiven 4 (some .boolean), Cond.fieldLink RX3 18 "GoalLifts$House" "cars" "LGoalLifts$Cars;", Cond.fieldLink RX3 56 "GoalLifts$Cars" "state" "[I", Cond.methodLink RX3 59 yX3_isAwake, Cond.instanceMethod yX3_isAwake]
def wsX4_cost_r2 : List Cond := [Cond.selects RX3 yX3_isAwake yX3_isAwake, Cond.code yX3_isAwake cX3_isAwake 2 (some .boolean), Cond.fieldLink RX3 9 "GoalLifts$House" "awake" "[I", Cond.methodLink RX3 52 yX3_hour, Cond.instanceMethod yX3_hour, Cond.selects RX3 yX3_hour yX3_hour, Cond.code yX3_hour cX3_hour 1 (some .int), Cond.fieldLink RX3 29 "GoalLifts$House" "tick" "I", Cond.methodLink RX3 46 yJ9_floorMod_7cf53, Cond.static yJ9_floorMod_7cf53, Cond.initialized RJ9, Cond.code yJ9_floorMod_7cf53 cJ9_floorMod_7cf53 3 (some .int), Cond.methodLink RX3 63 yX1_serves, Cond.instanceMethod yX1_serves, Cond.selects RX1 yX1_serves yX1_serves, Cond.code yX1_serves cX1_serves 3 (some .boolean), Cond.fieldLink RX1 9 "GoalLifts$Cars" "lowest" "[I", Cond.fieldLink RX1 15 "GoalLifts$Cars" "highest" "[I", Cond.methodLink RX4 169 yX3_costOf, Cond.instanceMethod yX3_costOf, Cond.selects RX3 yX3_costOf yX3_costOf, Cond.code yX3_costOf cX3_costOf 6 (some .int), Cond.fieldLink RX3 67 "GoalLifts$Cars" "floor" "[I", Cond.methodLink RX3 70 Lib.Math.abs.name]
def wsX4_cost_r3 : List Cond := [Cond.static Lib.Math.abs.name, Cond.initialized "java/lang/Math", Cond.code Lib.Math.abs.name Lib.Math.abs.code 1 (some .int), Cond.fieldLink RX3 25 "GoalLifts$House" "callers" "LGoalLifts$Callers;", Cond.methodLink RX3 74 yX0_stopsOf, Cond.instanceMethod yX0_stopsOf, Cond.selects RX0 yX0_stopsOf yX0_stopsOf, Cond.initialized RX0, Cond.code yX0_stopsOf cX0_stopsOf 4 (some .int), Cond.fieldLink RX0 36 "GoalLifts$Callers" "count" "I", Cond.fieldLink RX0 9 "GoalLifts$Callers" "floor" "[I", Cond.fieldLink RX0 15 "GoalLifts$Callers" "goal" "[I", Cond.methodLink RX0 54 yX0_waitsFor, Cond.instanceMethod yX0_waitsFor, Cond.selects RX0 yX0_waitsFor yX0_waitsFor, Cond.code yX0_waitsFor cX0_waitsFor 3 (some .boolean), Cond.fieldLink RX0 18 "GoalLifts$Callers" "phase" "[I", Cond.fieldLink RX0 21 "GoalLifts$Callers" "given" "[I", Cond.methodLink RX0 58 yX0_rides, Cond.instanceMethod yX0_rides, Cond.selects RX0 yX0_rides yX0_rides, Cond.code yX0_rides cX0_rides 3 (some .boolean), Cond.methodLink RX3 77 yJ6_bitCount_0f7a4, Cond.static yJ6_bitCount_0f7a4]
def wsX4_cost_r4 : List Cond := [Cond.initialized RJ6, Cond.code yJ6_bitCount_0f7a4 cJ6_bitCount_0f7a4 1 (some .int), Cond.constant RJ6 265 (1431655765), Cond.constant RJ6 266 (858993459), Cond.constant RJ6 267 (252645135), Cond.methodLink RX3 82 yX0_numberWith, Cond.instanceMethod yX0_numberWith, Cond.selects RX0 yX0_numberWith yX0_numberWith, Cond.code yX0_numberWith cX0_numberWith 2 (some .int), Cond.methodLink RX0 50 yX0_numberOf, Cond.instanceMethod yX0_numberOf, Cond.selects RX0 yX0_numberOf yX0_numberOf, Cond.code yX0_numberOf cX0_numberOf 5 (some .int)]
def wsX4_cost : List Cond := .code yX4_cost cX4_cost 4 (some .int) :: ((wsX4_cost_r1 ++ (wsX4_cost_r2 ++ (wsX4_cost_r3 ++ wsX4_cost_r4))) ++ wsX40 ++ wsX30 ++ wsX10 ++ wsX00)
def wsX4_would_r1 : List Cond := [Cond.fieldLink RX4 10 "GoalLifts" "house" "LGoalLifts$House;", Cond.methodLink RX4 78 yX4_isWay, Cond.static yX4_isWay, Cond.initialized RX4, Cond.code yX4_isWay cX4_isWay 2 (some .boolean), Cond.methodLink RX4 26 yX4_isFloor, Cond.static yX4_isFloor, Cond.code yX4_isFloor cX4_isFloor 1 (some .boolean), Cond.methodLink RX4 83 yX3_bestCar, Cond.instanceMethod yX3_bestCar, Cond.selects RX3 yX3_bestCar yX3_bestCar, Cond.initialized RX3, Cond.code yX3_bestCar cX3_bestCar 7 (some .int), Cond.fieldLink RX3 18 "GoalLifts$House" "cars" "LGoalLifts$Cars;", Cond.fieldLink RX3 85 "GoalLifts$Cars" "count" "I", Cond.methodLink RX3 88 yX3_canBeGiven, Cond.instanceMethod yX3_canBeGiven, Cond.selects RX3 yX3_canBeGiven yX3_canBeGiven, Cond.code yX3_canBeGiven cX3_canBeGiven 4 (some .boolean), Cond.fieldLink RX3 56 "GoalLifts$Cars" "state" "[I", Cond.methodLink RX3 59 yX3_isAwake, Cond.instanceMethod yX3_isAwake, Cond.selects RX3 yX3_isAwake yX3_isAwake, Cond.code yX3_isAwake cX3_isAwake 2 (some .boolean)]
def wsX4_would_r2 : List Cond := [Cond.fieldLink RX3 9 "GoalLifts$House" "awake" "[I", Cond.methodLink RX3 52 yX3_hour, Cond.instanceMethod yX3_hour, Cond.selects RX3 yX3_hour yX3_hour, Cond.code yX3_hour cX3_hour 1 (some .int), Cond.fieldLink RX3 29 "GoalLifts$House" "tick" "I", Cond.methodLink RX3 46 yJ9_floorMod_7cf53, Cond.static yJ9_floorMod_7cf53, Cond.initialized RJ9, Cond.code yJ9_floorMod_7cf53 cJ9_floorMod_7cf53 3 (some .int), Cond.methodLink RX3 63 yX1_serves, Cond.instanceMethod yX1_serves, Cond.selects RX1 yX1_serves yX1_serves, Cond.initialized RX1, Cond.code yX1_serves cX1_serves 3 (some .boolean), Cond.fieldLink RX1 9 "GoalLifts$Cars" "lowest" "[I", Cond.fieldLink RX1 15 "GoalLifts$Cars" "highest" "[I", Cond.methodLink RX3 92 yX3_costOf, Cond.instanceMethod yX3_costOf, Cond.selects RX3 yX3_costOf yX3_costOf, Cond.code yX3_costOf cX3_costOf 6 (some .int), Cond.fieldLink RX3 67 "GoalLifts$Cars" "floor" "[I", Cond.methodLink RX3 70 Lib.Math.abs.name, Cond.static Lib.Math.abs.name]
def wsX4_would_r3 : List Cond := [Cond.initialized "java/lang/Math", Cond.code Lib.Math.abs.name Lib.Math.abs.code 1 (some .int), Cond.fieldLink RX3 25 "GoalLifts$House" "callers" "LGoalLifts$Callers;", Cond.methodLink RX3 74 yX0_stopsOf, Cond.instanceMethod yX0_stopsOf, Cond.selects RX0 yX0_stopsOf yX0_stopsOf, Cond.initialized RX0, Cond.code yX0_stopsOf cX0_stopsOf 4 (some .int), Cond.fieldLink RX0 36 "GoalLifts$Callers" "count" "I", Cond.fieldLink RX0 9 "GoalLifts$Callers" "floor" "[I", Cond.fieldLink RX0 15 "GoalLifts$Callers" "goal" "[I", Cond.methodLink RX0 54 yX0_waitsFor, Cond.instanceMethod yX0_waitsFor, Cond.selects RX0 yX0_waitsFor yX0_waitsFor, Cond.code yX0_waitsFor cX0_waitsFor 3 (some .boolean), Cond.fieldLink RX0 18 "GoalLifts$Callers" "phase" "[I", Cond.fieldLink RX0 21 "GoalLifts$Callers" "given" "[I", Cond.methodLink RX0 58 yX0_rides, Cond.instanceMethod yX0_rides, Cond.selects RX0 yX0_rides yX0_rides, Cond.code yX0_rides cX0_rides 3 (some .boolean), Cond.methodLink RX3 77 yJ6_bitCount_0f7a4, Cond.static yJ6_bitCount_0f7a4, Cond.initialized RJ6]
def wsX4_would_r4 : List Cond := [Cond.code yJ6_bitCount_0f7a4 cJ6_bitCount_0f7a4 1 (some .int), Cond.constant RJ6 265 (1431655765), Cond.constant RJ6 266 (858993459), Cond.constant RJ6 267 (252645135), Cond.methodLink RX3 82 yX0_numberWith, Cond.instanceMethod yX0_numberWith, Cond.selects RX0 yX0_numberWith yX0_numberWith, Cond.code yX0_numberWith cX0_numberWith 2 (some .int), Cond.methodLink RX0 50 yX0_numberOf, Cond.instanceMethod yX0_numberOf, Cond.selects RX0 yX0_numberOf yX0_numberOf, Cond.code yX0_numberOf cX0_numberOf 5 (some .int)]
def wsX4_would : List Cond := .code yX4_would cX4_would 3 (some .int) :: ((wsX4_would_r1 ++ (wsX4_would_r2 ++ (wsX4_would_r3 ++ wsX4_would_r4))) ++ wsX40 ++ wsX30 ++ wsX10 ++ wsX00)
def wsX4_thereIn_r1 : List Cond := [Cond.fieldLink RX4 10 "GoalLifts" "house" "LGoalLifts$House;", Cond.fieldLink RX4 58 "GoalLifts$House" "callers" "LGoalLifts$Callers;", Cond.fieldLink RX4 16 "GoalLifts" "forecast" "LGoalLifts$House;", Cond.fieldLink RX4 141 "GoalLifts$Callers" "phase" "[I", Cond.methodLink RX4 136 yX0_has, Cond.instanceMethod yX0_has, Cond.selects RX0 yX0_has yX0_has, Cond.initialized RX0, Cond.code yX0_has cX0_has 2 (some .boolean), Cond.fieldLink RX0 36 "GoalLifts$Callers" "count" "I", Cond.methodLink RX4 172 yX3_copyFrom, Cond.instanceMethod yX3_copyFrom, Cond.selects RX3 yX3_copyFrom yX3_copyFrom, Cond.initialized RX3, Cond.code yX3_copyFrom cX3_copyFrom 2 none, Cond.fieldLink RX3 29 "GoalLifts$House" "tick" "I", Cond.fieldLink RX3 9 "GoalLifts$House" "awake" "[I", Cond.methodLink RX3 33 arraycopyName, Cond.native arraycopyName, Cond.static arraycopyName, Cond.initialized "java/lang/System", Cond.fieldLink RX3 18 "GoalLifts$House" "cars" "LGoalLifts$Cars;", Cond.fieldLink RX3 25 "GoalLifts$House" "callers" "LGoalLifts$Callers;", Cond.methodLink RX3 39 yX1_copyFrom]
def wsX4_thereIn_r2 : List Cond := [Cond.instanceMethod yX1_copyFrom, Cond.selects RX1 yX1_copyFrom yX1_copyFrom, Cond.initialized RX1, Cond.code yX1_copyFrom cX1_copyFrom 2 none, Cond.fieldLink RX1 30 "GoalLifts$Cars" "count" "I", Cond.fieldLink RX1 34 "GoalLifts$Cars" "stopsMade" "I", Cond.fieldLink RX1 9 "GoalLifts$Cars" "lowest" "[I", Cond.methodLink RX1 37 arraycopyName, Cond.fieldLink RX1 15 "GoalLifts$Cars" "highest" "[I", Cond.fieldLink RX1 18 "GoalLifts$Cars" "places" "[I", Cond.fieldLink RX1 21 "GoalLifts$Cars" "floor" "[I", Cond.fieldLink RX1 24 "GoalLifts$Cars" "state" "[I", Cond.fieldLink RX1 27 "GoalLifts$Cars" "travelled" "[I", Cond.methodLink RX3 43 yX0_copyFrom, Cond.instanceMethod yX0_copyFrom, Cond.selects RX0 yX0_copyFrom yX0_copyFrom, Cond.code yX0_copyFrom cX0_copyFrom 2 none, Cond.fieldLink RX0 9 "GoalLifts$Callers" "floor" "[I", Cond.methodLink RX0 40 arraycopyName, Cond.fieldLink RX0 15 "GoalLifts$Callers" "goal" "[I", Cond.fieldLink RX0 18 "GoalLifts$Callers" "phase" "[I", Cond.fieldLink RX0 21 "GoalLifts$Callers" "given" "[I", Cond.fieldLink RX0 24 "GoalLifts$Callers" "calledAt" "[I", Cond.fieldLink RX0 27 "GoalLifts$Callers" "rodeAt" "[I"]
def wsX4_thereIn_r3 : List Cond := [Cond.fieldLink RX0 30 "GoalLifts$Callers" "thereAt" "[I", Cond.fieldLink RX0 33 "GoalLifts$Callers" "timesGiven" "[I", Cond.methodLink RX4 95 yX3_oneTick, Cond.instanceMethod yX3_oneTick, Cond.selects RX3 yX3_oneTick yX3_oneTick, Cond.code yX3_oneTick cX3_oneTick 2 none, Cond.fieldLink RX3 96 "GoalLifts$Callers" "count" "I", Cond.fieldLink RX3 97 "GoalLifts$Callers" "phase" "[I", Cond.fieldLink RX3 100 "GoalLifts$Callers" "floor" "[I", Cond.fieldLink RX3 101 "GoalLifts$Callers" "goal" "[I", Cond.fieldLink RX3 85 "GoalLifts$Cars" "count" "I", Cond.fieldLink RX3 56 "GoalLifts$Cars" "state" "[I", Cond.methodLink RX3 104 yX3_bestCar, Cond.instanceMethod yX3_bestCar, Cond.selects RX3 yX3_bestCar yX3_bestCar, Cond.code yX3_bestCar cX3_bestCar 7 (some .int), Cond.methodLink RX3 88 yX3_canBeGiven, Cond.instanceMethod yX3_canBeGiven, Cond.selects RX3 yX3_canBeGiven yX3_canBeGiven, Cond.code yX3_canBeGiven cX3_canBeGiven 4 (some .boolean), Cond.methodLink RX3 59 yX3_isAwake, Cond.instanceMethod yX3_isAwake, Cond.selects RX3 yX3_isAwake yX3_isAwake, Cond.code yX3_isAwake cX3_isAwake 2 (some .boolean)]
def wsX4_thereIn_r4 : List Cond := [Cond.methodLink RX3 52 yX3_hour, Cond.instanceMethod yX3_hour, Cond.selects RX3 yX3_hour yX3_hour, Cond.code yX3_hour cX3_hour 1 (some .int), Cond.methodLink RX3 46 yJ9_floorMod_7cf53, Cond.static yJ9_floorMod_7cf53, Cond.initialized RJ9, Cond.code yJ9_floorMod_7cf53 cJ9_floorMod_7cf53 3 (some .int), Cond.methodLink RX3 63 yX1_serves, Cond.instanceMethod yX1_serves, Cond.selects RX1 yX1_serves yX1_serves, Cond.code yX1_serves cX1_serves 3 (some .boolean), Cond.methodLink RX3 92 yX3_costOf, Cond.instanceMethod yX3_costOf, Cond.selects RX3 yX3_costOf yX3_costOf, Cond.code yX3_costOf cX3_costOf 6 (some .int), Cond.fieldLink RX3 67 "GoalLifts$Cars" "floor" "[I", Cond.methodLink RX3 70 Lib.Math.abs.name, Cond.static Lib.Math.abs.name, Cond.initialized "java/lang/Math", Cond.code Lib.Math.abs.name Lib.Math.abs.code 1 (some .int), Cond.methodLink RX3 74 yX0_stopsOf, Cond.instanceMethod yX0_stopsOf, Cond.selects RX0 yX0_stopsOf yX0_stopsOf]
def wsX4_thereIn_r5 : List Cond := [Cond.code yX0_stopsOf cX0_stopsOf 4 (some .int), Cond.methodLink RX0 54 yX0_waitsFor, Cond.instanceMethod yX0_waitsFor, Cond.selects RX0 yX0_waitsFor yX0_waitsFor, Cond.code yX0_waitsFor cX0_waitsFor 3 (some .boolean), Cond.methodLink RX0 58 yX0_rides, Cond.instanceMethod yX0_rides, Cond.selects RX0 yX0_rides yX0_rides, Cond.code yX0_rides cX0_rides 3 (some .boolean), Cond.methodLink RX3 77 yJ6_bitCount_0f7a4, Cond.static yJ6_bitCount_0f7a4, Cond.initialized RJ6, Cond.code yJ6_bitCount_0f7a4 cJ6_bitCount_0f7a4 1 (some .int), Cond.constant RJ6 265 (1431655765), Cond.constant RJ6 266 (858993459), Cond.constant RJ6 267 (252645135), Cond.methodLink RX3 82 yX0_numberWith, Cond.instanceMethod yX0_numberWith, Cond.selects RX0 yX0_numberWith yX0_numberWith, Cond.code yX0_numberWith cX0_numberWith 2 (some .int), Cond.methodLink RX0 50 yX0_numberOf, Cond.instanceMethod yX0_numberOf, Cond.selects RX0 yX0_numberOf yX0_numberOf, Cond.code yX0_numberOf cX0_numberOf 5 (some .int)]
def wsX4_thereIn_r6 : List Cond := [Cond.methodLink RX3 107 yX0_give, Cond.instanceMethod yX0_give, Cond.selects RX0 yX0_give yX0_give, Cond.code yX0_give cX0_give 3 none, Cond.methodLink RX0 46 yX0_has, Cond.methodLink RX3 111 yX3_stopOrTravel, Cond.instanceMethod yX3_stopOrTravel, Cond.selects RX3 yX3_stopOrTravel yX3_stopOrTravel, Cond.code yX3_stopOrTravel cX3_stopOrTravel 6 none, Cond.fieldLink RX3 118 "GoalLifts$Cars" "places" "[I", Cond.fieldLink RX3 125 "GoalLifts$Cars" "stopsMade" "I", Cond.methodLink RX3 115 yX0_letOut, Cond.instanceMethod yX0_letOut, Cond.selects RX0 yX0_letOut yX0_letOut, Cond.code yX0_letOut cX0_letOut 6 (some .int), Cond.methodLink RX3 121 yX0_takeIn, Cond.instanceMethod yX0_takeIn, Cond.selects RX0 yX0_takeIn yX0_takeIn, Cond.code yX0_takeIn cX0_takeIn 8 (some .int), Cond.methodLink RX3 128 yX0_aimOf, Cond.instanceMethod yX0_aimOf, Cond.selects RX0 yX0_aimOf yX0_aimOf, Cond.code yX0_aimOf cX0_aimOf 6 (some .int), Cond.methodLink RX0 61 yX0_isNearer]
def wsX4_thereIn_r7 : List Cond := [Cond.static yX0_isNearer, Cond.code yX0_isNearer cX0_isNearer 5 (some .boolean), Cond.methodLink RX0 65 Lib.Math.abs.name, Cond.methodLink RX3 131 yX1_travelTowards, Cond.instanceMethod yX1_travelTowards, Cond.selects RX1 yX1_travelTowards yX1_travelTowards, Cond.code yX1_travelTowards cX1_travelTowards 3 none]
def wsX4_thereIn : List Cond := .code yX4_thereIn cX4_thereIn 3 (some .int) :: ((wsX4_thereIn_r1 ++ (wsX4_thereIn_r2 ++ (wsX4_thereIn_r3 ++ (wsX4_thereIn_r4 ++ (wsX4_thereIn_r5 ++ (wsX4_thereIn_r6 ++ wsX4_thereIn_r7)))))) ++ wsX40 ++ wsX30 ++ wsX00 ++ wsX10)
def wsX4_waits : List Cond := .code yX4_waits cX4_waits 7 (some .int) :: ([.fieldLink RX4 10 "GoalLifts" "house" "LGoalLifts$House;", .fieldLink RX4 58 "GoalLifts$House" "callers" "LGoalLifts$Callers;", .fieldLink RX4 82 "GoalLifts$Callers" "count" "I", .fieldLink RX4 87 "GoalLifts$House" "tick" "I", .methodLink RX4 175 yX0_waitOf, .instanceMethod yX0_waitOf, .selects RX0 yX0_waitOf yX0_waitOf, .initialized RX0, .code yX0_waitOf cX0_waitOf 4 (some .int), .fieldLink RX0 18 "GoalLifts$Callers" "phase" "[I", .fieldLink RX0 27 "GoalLifts$Callers" "rodeAt" "[I", .fieldLink RX0 24 "GoalLifts$Callers" "calledAt" "[I"] ++ wsX40 ++ wsX30 ++ wsX00)
def wsX4_allThereInWithout_r1 : List Cond := [Cond.fieldLink RX4 16 "GoalLifts" "forecast" "LGoalLifts$House;", Cond.fieldLink RX4 10 "GoalLifts" "house" "LGoalLifts$House;", Cond.fieldLink RX4 58 "GoalLifts$House" "callers" "LGoalLifts$Callers;", Cond.fieldLink RX4 82 "GoalLifts$Callers" "count" "I", Cond.methodLink RX4 172 yX3_copyFrom, Cond.instanceMethod yX3_copyFrom, Cond.selects RX3 yX3_copyFrom yX3_copyFrom, Cond.initialized RX3, Cond.code yX3_copyFrom cX3_copyFrom 2 none, Cond.fieldLink RX3 29 "GoalLifts$House" "tick" "I", Cond.fieldLink RX3 9 "GoalLifts$House" "awake" "[I", Cond.methodLink RX3 33 arraycopyName, Cond.native arraycopyName, Cond.static arraycopyName, Cond.initialized "java/lang/System", Cond.fieldLink RX3 18 "GoalLifts$House" "cars" "LGoalLifts$Cars;", Cond.fieldLink RX3 25 "GoalLifts$House" "callers" "LGoalLifts$Callers;", Cond.methodLink RX3 39 yX1_copyFrom, Cond.instanceMethod yX1_copyFrom, Cond.selects RX1 yX1_copyFrom yX1_copyFrom, Cond.initialized RX1, Cond.code yX1_copyFrom cX1_copyFrom 2 none, Cond.fieldLink RX1 30 "GoalLifts$Cars" "count" "I", Cond.fieldLink RX1 34 "GoalLifts$Cars" "stopsMade" "I"]
def wsX4_allThereInWithout_r2 : List Cond := [Cond.fieldLink RX1 9 "GoalLifts$Cars" "lowest" "[I", Cond.methodLink RX1 37 arraycopyName, Cond.fieldLink RX1 15 "GoalLifts$Cars" "highest" "[I", Cond.fieldLink RX1 18 "GoalLifts$Cars" "places" "[I", Cond.fieldLink RX1 21 "GoalLifts$Cars" "floor" "[I", Cond.fieldLink RX1 24 "GoalLifts$Cars" "state" "[I", Cond.fieldLink RX1 27 "GoalLifts$Cars" "travelled" "[I", Cond.methodLink RX3 43 yX0_copyFrom, Cond.instanceMethod yX0_copyFrom, Cond.selects RX0 yX0_copyFrom yX0_copyFrom, Cond.initialized RX0, Cond.code yX0_copyFrom cX0_copyFrom 2 none, Cond.fieldLink RX0 36 "GoalLifts$Callers" "count" "I", Cond.fieldLink RX0 9 "GoalLifts$Callers" "floor" "[I", Cond.methodLink RX0 40 arraycopyName, Cond.fieldLink RX0 15 "GoalLifts$Callers" "goal" "[I", Cond.fieldLink RX0 18 "GoalLifts$Callers" "phase" "[I", Cond.fieldLink RX0 21 "GoalLifts$Callers" "given" "[I", Cond.fieldLink RX0 24 "GoalLifts$Callers" "calledAt" "[I", Cond.fieldLink RX0 27 "GoalLifts$Callers" "rodeAt" "[I", Cond.fieldLink RX0 30 "GoalLifts$Callers" "thereAt" "[I", Cond.fieldLink RX0 33 "GoalLifts$Callers" "timesGiven" "[I", Cond.methodLink RX4 68 yX3_breakCar, Cond.instanceMethod yX3_breakCar]
def wsX4_allThereInWithout_r3 : List Cond := [Cond.selects RX3 yX3_breakCar yX3_breakCar, Cond.code yX3_breakCar cX3_breakCar 2 none, Cond.fieldLink RX3 56 "GoalLifts$Cars" "state" "[I", Cond.fieldLink RX3 67 "GoalLifts$Cars" "floor" "[I", Cond.methodLink RX3 134 yX0_loseCar, Cond.instanceMethod yX0_loseCar, Cond.selects RX0 yX0_loseCar yX0_loseCar, Cond.code yX0_loseCar cX0_loseCar 6 none, Cond.methodLink RX0 58 yX0_rides, Cond.instanceMethod yX0_rides, Cond.selects RX0 yX0_rides yX0_rides, Cond.code yX0_rides cX0_rides 3 (some .boolean), Cond.methodLink RX0 54 yX0_waitsFor, Cond.instanceMethod yX0_waitsFor, Cond.selects RX0 yX0_waitsFor yX0_waitsFor, Cond.code yX0_waitsFor cX0_waitsFor 3 (some .boolean), Cond.methodLink RX4 72 yX0_numberIn, Cond.instanceMethod yX0_numberIn, Cond.selects RX0 yX0_numberIn yX0_numberIn, Cond.code yX0_numberIn cX0_numberIn 4 (some .int), Cond.methodLink RX4 95 yX3_oneTick, Cond.instanceMethod yX3_oneTick, Cond.selects RX3 yX3_oneTick yX3_oneTick, Cond.code yX3_oneTick cX3_oneTick 2 none]
def wsX4_allThereInWithout_r4 : List Cond := [Cond.fieldLink RX3 96 "GoalLifts$Callers" "count" "I", Cond.fieldLink RX3 97 "GoalLifts$Callers" "phase" "[I", Cond.fieldLink RX3 100 "GoalLifts$Callers" "floor" "[I", Cond.fieldLink RX3 101 "GoalLifts$Callers" "goal" "[I", Cond.fieldLink RX3 85 "GoalLifts$Cars" "count" "I", Cond.methodLink RX3 104 yX3_bestCar, Cond.instanceMethod yX3_bestCar, Cond.selects RX3 yX3_bestCar yX3_bestCar, Cond.code yX3_bestCar cX3_bestCar 7 (some .int), Cond.methodLink RX3 88 yX3_canBeGiven, Cond.instanceMethod yX3_canBeGiven, Cond.selects RX3 yX3_canBeGiven yX3_canBeGiven, Cond.code yX3_canBeGiven cX3_canBeGiven 4 (some .boolean), Cond.methodLink RX3 59 yX3_isAwake, Cond.instanceMethod yX3_isAwake, Cond.selects RX3 yX3_isAwake yX3_isAwake, Cond.code yX3_isAwake cX3_isAwake 2 (some .boolean), Cond.methodLink RX3 52 yX3_hour, Cond.instanceMethod yX3_hour, Cond.selects RX3 yX3_hour yX3_hour, Cond.code yX3_hour cX3_hour 1 (some .int), Cond.methodLink RX3 46 yJ9_floorMod_7cf53, Cond.static yJ9_floorMod_7cf53, Cond.initialized RJ9]
def wsX4_allThereInWithout_r5 : List Cond := [Cond.code yJ9_floorMod_7cf53 cJ9_floorMod_7cf53 3 (some .int), Cond.methodLink RX3 63 yX1_serves, Cond.instanceMethod yX1_serves, Cond.selects RX1 yX1_serves yX1_serves, Cond.code yX1_serves cX1_serves 3 (some .boolean), Cond.methodLink RX3 92 yX3_costOf, Cond.instanceMethod yX3_costOf, Cond.selects RX3 yX3_costOf yX3_costOf, Cond.code yX3_costOf cX3_costOf 6 (some .int), Cond.methodLink RX3 70 Lib.Math.abs.name, Cond.static Lib.Math.abs.name, Cond.initialized "java/lang/Math", Cond.code Lib.Math.abs.name Lib.Math.abs.code 1 (some .int), Cond.methodLink RX3 74 yX0_stopsOf, Cond.instanceMethod yX0_stopsOf, Cond.selects RX0 yX0_stopsOf yX0_stopsOf, Cond.code yX0_stopsOf cX0_stopsOf 4 (some .int), Cond.methodLink RX3 77 yJ6_bitCount_0f7a4, Cond.static yJ6_bitCount_0f7a4, Cond.initialized RJ6, Cond.code yJ6_bitCount_0f7a4 cJ6_bitCount_0f7a4 1 (some .int), Cond.constant RJ6 265 (1431655765), Cond.constant RJ6 266 (858993459), Cond.constant RJ6 267 (252645135)]
def wsX4_allThereInWithout_r6 : List Cond := [Cond.methodLink RX3 82 yX0_numberWith, Cond.instanceMethod yX0_numberWith, Cond.selects RX0 yX0_numberWith yX0_numberWith, Cond.code yX0_numberWith cX0_numberWith 2 (some .int), Cond.methodLink RX0 50 yX0_numberOf, Cond.instanceMethod yX0_numberOf, Cond.selects RX0 yX0_numberOf yX0_numberOf, Cond.code yX0_numberOf cX0_numberOf 5 (some .int), Cond.methodLink RX3 107 yX0_give, Cond.instanceMethod yX0_give, Cond.selects RX0 yX0_give yX0_give, Cond.code yX0_give cX0_give 3 none, Cond.methodLink RX0 46 yX0_has, Cond.instanceMethod yX0_has, Cond.selects RX0 yX0_has yX0_has, Cond.code yX0_has cX0_has 2 (some .boolean), Cond.methodLink RX3 111 yX3_stopOrTravel, Cond.instanceMethod yX3_stopOrTravel, Cond.selects RX3 yX3_stopOrTravel yX3_stopOrTravel, Cond.code yX3_stopOrTravel cX3_stopOrTravel 6 none, Cond.fieldLink RX3 118 "GoalLifts$Cars" "places" "[I", Cond.fieldLink RX3 125 "GoalLifts$Cars" "stopsMade" "I", Cond.methodLink RX3 115 yX0_letOut, Cond.instanceMethod yX0_letOut]
def wsX4_allThereInWithout_r7 : List Cond := [Cond.selects RX0 yX0_letOut yX0_letOut, Cond.code yX0_letOut cX0_letOut 6 (some .int), Cond.methodLink RX3 121 yX0_takeIn, Cond.instanceMethod yX0_takeIn, Cond.selects RX0 yX0_takeIn yX0_takeIn, Cond.code yX0_takeIn cX0_takeIn 8 (some .int), Cond.methodLink RX3 128 yX0_aimOf, Cond.instanceMethod yX0_aimOf, Cond.selects RX0 yX0_aimOf yX0_aimOf, Cond.code yX0_aimOf cX0_aimOf 6 (some .int), Cond.methodLink RX0 61 yX0_isNearer, Cond.static yX0_isNearer, Cond.code yX0_isNearer cX0_isNearer 5 (some .boolean), Cond.methodLink RX0 65 Lib.Math.abs.name, Cond.methodLink RX3 131 yX1_travelTowards, Cond.instanceMethod yX1_travelTowards, Cond.selects RX1 yX1_travelTowards yX1_travelTowards, Cond.code yX1_travelTowards cX1_travelTowards 3 none]
def wsX4_allThereInWithout : List Cond := .code yX4_allThereInWithout cX4_allThereInWithout 3 (some .int) :: ((wsX4_allThereInWithout_r1 ++ (wsX4_allThereInWithout_r2 ++ (wsX4_allThereInWithout_r3 ++ (wsX4_allThereInWithout_r4 ++ (wsX4_allThereInWithout_r5 ++ (wsX4_allThereInWithout_r6 ++ wsX4_allThereInWithout_r7)))))) ++ wsX40 ++ wsX30 ++ wsX00 ++ wsX10)
def wsX4_worstCar_r1 : List Cond := [Cond.fieldLink RX4 10 "GoalLifts" "house" "LGoalLifts$House;", Cond.fieldLink RX4 30 "GoalLifts$House" "cars" "LGoalLifts$Cars;", Cond.fieldLink RX4 34 "GoalLifts$Cars" "count" "I", Cond.fieldLink RX4 55 "GoalLifts$Cars" "state" "[I", Cond.methodLink RX4 178 yX4_allThereInWithout, Cond.instanceMethod yX4_allThereInWithout, Cond.selects RX4 yX4_allThereInWithout yX4_allThereInWithout, Cond.initialized RX4, Cond.code yX4_allThereInWithout cX4_allThereInWithout 3 (some .int), Cond.fieldLink RX4 16 "GoalLifts" "forecast" "LGoalLifts$House;", Cond.fieldLink RX4 58 "GoalLifts$House" "callers" "LGoalLifts$Callers;", Cond.fieldLink RX4 82 "GoalLifts$Callers" "count" "I", Cond.methodLink RX4 172 yX3_copyFrom, Cond.instanceMethod yX3_copyFrom, Cond.selects RX3 yX3_copyFrom yX3_copyFrom, Cond.initialized RX3, Cond.code yX3_copyFrom cX3_copyFrom 2 none, Cond.fieldLink RX3 29 "GoalLifts$House" "tick" "I", Cond.fieldLink RX3 9 "GoalLifts$House" "awake" "[I", Cond.methodLink RX3 33 arraycopyName, Cond.native arraycopyName, Cond.static arraycopyName, Cond.initialized "java/lang/System", Cond.fieldLink RX3 18 "GoalLifts$House" "cars" "LGoalLifts$Cars;"]
def wsX4_worstCar_r2 : List Cond := [Cond.fieldLink RX3 25 "GoalLifts$House" "callers" "LGoalLifts$Callers;", Cond.methodLink RX3 39 yX1_copyFrom, Cond.instanceMethod yX1_copyFrom, Cond.selects RX1 yX1_copyFrom yX1_copyFrom, Cond.initialized RX1, Cond.code yX1_copyFrom cX1_copyFrom 2 none, Cond.fieldLink RX1 30 "GoalLifts$Cars" "count" "I", Cond.fieldLink RX1 34 "GoalLifts$Cars" "stopsMade" "I", Cond.fieldLink RX1 9 "GoalLifts$Cars" "lowest" "[I", Cond.methodLink RX1 37 arraycopyName, Cond.fieldLink RX1 15 "GoalLifts$Cars" "highest" "[I", Cond.fieldLink RX1 18 "GoalLifts$Cars" "places" "[I", Cond.fieldLink RX1 21 "GoalLifts$Cars" "floor" "[I", Cond.fieldLink RX1 24 "GoalLifts$Cars" "state" "[I", Cond.fieldLink RX1 27 "GoalLifts$Cars" "travelled" "[I", Cond.methodLink RX3 43 yX0_copyFrom, Cond.instanceMethod yX0_copyFrom, Cond.selects RX0 yX0_copyFrom yX0_copyFrom, Cond.initialized RX0, Cond.code yX0_copyFrom cX0_copyFrom 2 none, Cond.fieldLink RX0 36 "GoalLifts$Callers" "count" "I", Cond.fieldLink RX0 9 "GoalLifts$Callers" "floor" "[I", Cond.methodLink RX0 40 arraycopyName, Cond.fieldLink RX0 15 "GoalLifts$Callers" "goal" "[I"]
def wsX4_worstCar_r3 : List Cond := [Cond.fieldLink RX0 18 "GoalLifts$Callers" "phase" "[I", Cond.fieldLink RX0 21 "GoalLifts$Callers" "given" "[I", Cond.fieldLink RX0 24 "GoalLifts$Callers" "calledAt" "[I", Cond.fieldLink RX0 27 "GoalLifts$Callers" "rodeAt" "[I", Cond.fieldLink RX0 30 "GoalLifts$Callers" "thereAt" "[I", Cond.fieldLink RX0 33 "GoalLifts$Callers" "timesGiven" "[I", Cond.methodLink RX4 68 yX3_breakCar, Cond.instanceMethod yX3_breakCar, Cond.selects RX3 yX3_breakCar yX3_breakCar, Cond.code yX3_breakCar cX3_breakCar 2 none, Cond.fieldLink RX3 56 "GoalLifts$Cars" "state" "[I", Cond.fieldLink RX3 67 "GoalLifts$Cars" "floor" "[I", Cond.methodLink RX3 134 yX0_loseCar, Cond.instanceMethod yX0_loseCar, Cond.selects RX0 yX0_loseCar yX0_loseCar, Cond.code yX0_loseCar cX0_loseCar 6 none, Cond.methodLink RX0 58 yX0_rides, Cond.instanceMethod yX0_rides, Cond.selects RX0 yX0_rides yX0_rides, Cond.code yX0_rides cX0_rides 3 (some .boolean), Cond.methodLink RX0 54 yX0_waitsFor, Cond.instanceMethod yX0_waitsFor, Cond.selects RX0 yX0_waitsFor yX0_waitsFor, Cond.code yX0_waitsFor cX0_waitsFor 3 (some .boolean)]
def wsX4_worstCar_r4 : List Cond := [Cond.methodLink RX4 72 yX0_numberIn, Cond.instanceMethod yX0_numberIn, Cond.selects RX0 yX0_numberIn yX0_numberIn, Cond.code yX0_numberIn cX0_numberIn 4 (some .int), Cond.methodLink RX4 95 yX3_oneTick, Cond.instanceMethod yX3_oneTick, Cond.selects RX3 yX3_oneTick yX3_oneTick, Cond.code yX3_oneTick cX3_oneTick 2 none, Cond.fieldLink RX3 96 "GoalLifts$Callers" "count" "I", Cond.fieldLink RX3 97 "GoalLifts$Callers" "phase" "[I", Cond.fieldLink RX3 100 "GoalLifts$Callers" "floor" "[I", Cond.fieldLink RX3 101 "GoalLifts$Callers" "goal" "[I", Cond.fieldLink RX3 85 "GoalLifts$Cars" "count" "I", Cond.methodLink RX3 104 yX3_bestCar, Cond.instanceMethod yX3_bestCar, Cond.selects RX3 yX3_bestCar yX3_bestCar, Cond.code yX3_bestCar cX3_bestCar 7 (some .int), Cond.methodLink RX3 88 yX3_canBeGiven, Cond.instanceMethod yX3_canBeGiven, Cond.selects RX3 yX3_canBeGiven yX3_canBeGiven, Cond.code yX3_canBeGiven cX3_canBeGiven 4 (some .boolean), Cond.methodLink RX3 59 yX3_isAwake, Cond.instanceMethod yX3_isAwake, Cond.selects RX3 yX3_isAwake yX3_isAwake]
def wsX4_worstCar_r5 : List Cond := [Cond.code yX3_isAwake cX3_isAwake 2 (some .boolean), Cond.methodLink RX3 52 yX3_hour, Cond.instanceMethod yX3_hour, Cond.selects RX3 yX3_hour yX3_hour, Cond.code yX3_hour cX3_hour 1 (some .int), Cond.methodLink RX3 46 yJ9_floorMod_7cf53, Cond.static yJ9_floorMod_7cf53, Cond.initialized RJ9, Cond.code yJ9_floorMod_7cf53 cJ9_floorMod_7cf53 3 (some .int), Cond.methodLink RX3 63 yX1_serves, Cond.instanceMethod yX1_serves, Cond.selects RX1 yX1_serves yX1_serves, Cond.code yX1_serves cX1_serves 3 (some .boolean), Cond.methodLink RX3 92 yX3_costOf, Cond.instanceMethod yX3_costOf, Cond.selects RX3 yX3_costOf yX3_costOf, Cond.code yX3_costOf cX3_costOf 6 (some .int), Cond.methodLink RX3 70 Lib.Math.abs.name, Cond.static Lib.Math.abs.name, Cond.initialized "java/lang/Math", Cond.code Lib.Math.abs.name Lib.Math.abs.code 1 (some .int), Cond.methodLink RX3 74 yX0_stopsOf, Cond.instanceMethod yX0_stopsOf, Cond.selects RX0 yX0_stopsOf yX0_stopsOf]
def wsX4_worstCar_r6 : List Cond := [Cond.code yX0_stopsOf cX0_stopsOf 4 (some .int), Cond.methodLink RX3 77 yJ6_bitCount_0f7a4, Cond.static yJ6_bitCount_0f7a4, Cond.initialized RJ6, Cond.code yJ6_bitCount_0f7a4 cJ6_bitCount_0f7a4 1 (some .int), Cond.constant RJ6 265 (1431655765), Cond.constant RJ6 266 (858993459), Cond.constant RJ6 267 (252645135), Cond.methodLink RX3 82 yX0_numberWith, Cond.instanceMethod yX0_numberWith, Cond.selects RX0 yX0_numberWith yX0_numberWith, Cond.code yX0_numberWith cX0_numberWith 2 (some .int), Cond.methodLink RX0 50 yX0_numberOf, Cond.instanceMethod yX0_numberOf, Cond.selects RX0 yX0_numberOf yX0_numberOf, Cond.code yX0_numberOf cX0_numberOf 5 (some .int), Cond.methodLink RX3 107 yX0_give, Cond.instanceMethod yX0_give, Cond.selects RX0 yX0_give yX0_give, Cond.code yX0_give cX0_give 3 none, Cond.methodLink RX0 46 yX0_has, Cond.instanceMethod yX0_has, Cond.selects RX0 yX0_has yX0_has, Cond.code yX0_has cX0_has 2 (some .boolean)]
def wsX4_worstCar_r7 : List Cond := [Cond.methodLink RX3 111 yX3_stopOrTravel, Cond.instanceMethod yX3_stopOrTravel, Cond.selects RX3 yX3_stopOrTravel yX3_stopOrTravel, Cond.code yX3_stopOrTravel cX3_stopOrTravel 6 none, Cond.fieldLink RX3 118 "GoalLifts$Cars" "places" "[I", Cond.fieldLink RX3 125 "GoalLifts$Cars" "stopsMade" "I", Cond.methodLink RX3 115 yX0_letOut, Cond.instanceMethod yX0_letOut, Cond.selects RX0 yX0_letOut yX0_letOut, Cond.code yX0_letOut cX0_letOut 6 (some .int), Cond.methodLink RX3 121 yX0_takeIn, Cond.instanceMethod yX0_takeIn, Cond.selects RX0 yX0_takeIn yX0_takeIn, Cond.code yX0_takeIn cX0_takeIn 8 (some .int), Cond.methodLink RX3 128 yX0_aimOf, Cond.instanceMethod yX0_aimOf, Cond.selects RX0 yX0_aimOf yX0_aimOf, Cond.code yX0_aimOf cX0_aimOf 6 (some .int), Cond.methodLink RX0 61 yX0_isNearer, Cond.static yX0_isNearer, Cond.code yX0_isNearer cX0_isNearer 5 (some .boolean), Cond.methodLink RX0 65 Lib.Math.abs.name, Cond.methodLink RX3 131 yX1_travelTowards, Cond.instanceMethod yX1_travelTowards]
def wsX4_worstCar_r8 : List Cond := [Cond.selects RX1 yX1_travelTowards yX1_travelTowards, Cond.code yX1_travelTowards cX1_travelTowards 3 none]
def wsX4_worstCar : List Cond := .code yX4_worstCar cX4_worstCar 6 (some .int) :: ((wsX4_worstCar_r1 ++ (wsX4_worstCar_r2 ++ (wsX4_worstCar_r3 ++ (wsX4_worstCar_r4 ++ (wsX4_worstCar_r5 ++ (wsX4_worstCar_r6 ++ (wsX4_worstCar_r7 ++ wsX4_worstCar_r8))))))) ++ wsX40 ++ wsX30 ++ wsX10 ++ wsX00)
def wsX5_init : List Cond := .code yX5_init cX5_init 2 none :: ([.methodLink RX5 1 objectInit, .instanceMethod objectInit, .code objectInit ⟨#[0xb1]⟩ 1 none, .arrayClass .int, .fieldLink RX5 7 "GoalLiftsModel" "s" "[I", .fieldLink RX5 13 "GoalLiftsModel" "past" "[I", .fieldLink RX5 16 "GoalLiftsModel" "held" "[I", .fieldLink RX5 19 "GoalLiftsModel" "tried" "[I"] ++ wsX50)
def wsX5_in : List Cond := .code yX5_in cX5_in 3 (some .boolean) :: ([])
def wsX5_acts : List Cond := .code yX5_acts cX5_acts 2 none :: ([.fieldLink RX5 22 "GoalLiftsModel" "pasts" "I", .fieldLink RX5 13 "GoalLiftsModel" "past" "[I", .fieldLink RX5 7 "GoalLiftsModel" "s" "[I"] ++ wsX50)
def wsX5_copies : List Cond := .code yX5_copies cX5_copies 3 none :: ([])
def wsX5_isCar : List Cond := .code yX5_isCar cX5_isCar 2 (some .boolean) :: ([.fieldLink RX5 7 "GoalLiftsModel" "s" "[I"] ++ wsX50)
def wsX5_isCaller : List Cond := .code yX5_isCaller cX5_isCaller 2 (some .boolean) :: ([.fieldLink RX5 7 "GoalLiftsModel" "s" "[I"] ++ wsX50)
def wsX5_isFloor : List Cond := .code yX5_isFloor cX5_isFloor 1 (some .boolean) :: ([.methodLink RX5 26 yX5_in, .static yX5_in, .initialized RX5, .code yX5_in cX5_in 3 (some .boolean)])
def wsX5_ofCar : List Cond := .code yX5_ofCar cX5_ofCar 3 (some .int) :: ([.fieldLink RX5 7 "GoalLiftsModel" "s" "[I"] ++ wsX50)
def wsX5_putsCar : List Cond := .code yX5_putsCar cX5_putsCar 4 none :: ([.fieldLink RX5 7 "GoalLiftsModel" "s" "[I"] ++ wsX50)
def wsX5_ofCaller : List Cond := .code yX5_ofCaller cX5_ofCaller 3 (some .int) :: ([.fieldLink RX5 7 "GoalLiftsModel" "s" "[I"] ++ wsX50)
def wsX5_puts : List Cond := .code yX5_puts cX5_puts 4 none :: ([.fieldLink RX5 7 "GoalLiftsModel" "s" "[I"] ++ wsX50)
def wsX5_hour : List Cond := .code yX5_hour cX5_hour 1 (some .int) :: ([.fieldLink RX5 7 "GoalLiftsModel" "s" "[I"] ++ wsX50)
def wsX5_isAwake : List Cond := .code yX5_isAwake cX5_isAwake 2 (some .boolean) :: ([.fieldLink RX5 7 "GoalLiftsModel" "s" "[I", .methodLink RX5 30 yX5_hour, .instanceMethod yX5_hour, .selects RX5 yX5_hour yX5_hour, .initialized RX5, .code yX5_hour cX5_hour 1 (some .int)] ++ wsX50)
def wsX5_many : List Cond := .code yX5_many cX5_many 5 (some .int) :: ([.fieldLink RX5 7 "GoalLiftsModel" "s" "[I", .methodLink RX5 34 yX5_ofCaller, .instanceMethod yX5_ofCaller, .selects RX5 yX5_ofCaller yX5_ofCaller, .initialized RX5, .code yX5_ofCaller cX5_ofCaller 3 (some .int)] ++ wsX50)
def wsX5_inAll : List Cond := .code yX5_inAll cX5_inAll 4 (some .int) :: ([.fieldLink RX5 7 "GoalLiftsModel" "s" "[I", .methodLink RX5 34 yX5_ofCaller, .instanceMethod yX5_ofCaller, .selects RX5 yX5_ofCaller yX5_ofCaller, .initialized RX5, .code yX5_ofCaller cX5_ofCaller 3 (some .int)] ++ wsX50)
def wsX5_stops : List Cond := .code yX5_stops cX5_stops 4 (some .int) :: ([.fieldLink RX5 7 "GoalLiftsModel" "s" "[I", .methodLink RX5 34 yX5_ofCaller, .instanceMethod yX5_ofCaller, .selects RX5 yX5_ofCaller yX5_ofCaller, .initialized RX5, .code yX5_ofCaller cX5_ofCaller 3 (some .int), .methodLink RX5 26 yX5_in, .static yX5_in, .code yX5_in cX5_in 3 (some .boolean)] ++ wsX50)
def wsX5_ones : List Cond := .code yX5_ones cX5_ones 3 (some .int) :: ([])
def wsX5_far : List Cond := .code yX5_far cX5_far 2 (some .int) :: ([])
def wsX5_canBeGiven : List Cond := .code yX5_canBeGiven cX5_canBeGiven 5 (some .boolean) :: ([.methodLink RX5 38 yX5_ofCar, .instanceMethod yX5_ofCar, .selects RX5 yX5_ofCar yX5_ofCar, .initialized RX5, .code yX5_ofCar cX5_ofCar 3 (some .int), .fieldLink RX5 7 "GoalLiftsModel" "s" "[I", .methodLink RX5 41 yX5_isAwake, .instanceMethod yX5_isAwake, .selects RX5 yX5_isAwake yX5_isAwake, .code yX5_isAwake cX5_isAwake 2 (some .boolean), .methodLink RX5 30 yX5_hour, .instanceMethod yX5_hour, .selects RX5 yX5_hour yX5_hour, .code yX5_hour cX5_hour 1 (some .int), .methodLink RX5 26 yX5_in, .static yX5_in, .code yX5_in cX5_in 3 (some .boolean)] ++ wsX50)
def wsX5_costOf_r1 : List Cond := [Cond.methodLink RX5 45 yX5_stops, Cond.instanceMethod yX5_stops, Cond.selects RX5 yX5_stops yX5_stops, Cond.initialized RX5, Cond.code yX5_stops cX5_stops 4 (some .int), Cond.fieldLink RX5 7 "GoalLiftsModel" "s" "[I", Cond.methodLink RX5 34 yX5_ofCaller, Cond.instanceMethod yX5_ofCaller, Cond.selects RX5 yX5_ofCaller yX5_ofCaller, Cond.code yX5_ofCaller cX5_ofCaller 3 (some .int), Cond.methodLink RX5 26 yX5_in, Cond.static yX5_in, Cond.code yX5_in cX5_in 3 (some .boolean), Cond.methodLink RX5 49 yX5_ones, Cond.static yX5_ones, Cond.code yX5_ones cX5_ones 3 (some .int), Cond.methodLink RX5 38 yX5_ofCar, Cond.instanceMethod yX5_ofCar, Cond.selects RX5 yX5_ofCar yX5_ofCar, Cond.code yX5_ofCar cX5_ofCar 3 (some .int), Cond.methodLink RX5 52 yX5_far, Cond.static yX5_far, Cond.code yX5_far cX5_far 2 (some .int), Cond.methodLink RX5 55 yX5_many]
def wsX5_costOf_r2 : List Cond := [Cond.instanceMethod yX5_many, Cond.selects RX5 yX5_many yX5_many, Cond.code yX5_many cX5_many 5 (some .int)]
def wsX5_costOf : List Cond := .code yX5_costOf cX5_costOf 5 (some .int) :: ((wsX5_costOf_r1 ++ wsX5_costOf_r2) ++ wsX50)
def wsX5_best_r1 : List Cond := [Cond.fieldLink RX5 7 "GoalLiftsModel" "s" "[I", Cond.methodLink RX5 58 yX5_canBeGiven, Cond.instanceMethod yX5_canBeGiven, Cond.selects RX5 yX5_canBeGiven yX5_canBeGiven, Cond.initialized RX5, Cond.code yX5_canBeGiven cX5_canBeGiven 5 (some .boolean), Cond.methodLink RX5 38 yX5_ofCar, Cond.instanceMethod yX5_ofCar, Cond.selects RX5 yX5_ofCar yX5_ofCar, Cond.code yX5_ofCar cX5_ofCar 3 (some .int), Cond.methodLink RX5 41 yX5_isAwake, Cond.instanceMethod yX5_isAwake, Cond.selects RX5 yX5_isAwake yX5_isAwake, Cond.code yX5_isAwake cX5_isAwake 2 (some .boolean), Cond.methodLink RX5 30 yX5_hour, Cond.instanceMethod yX5_hour, Cond.selects RX5 yX5_hour yX5_hour, Cond.code yX5_hour cX5_hour 1 (some .int), Cond.methodLink RX5 26 yX5_in, Cond.static yX5_in, Cond.code yX5_in cX5_in 3 (some .boolean), Cond.methodLink RX5 61 yX5_costOf, Cond.instanceMethod yX5_costOf, Cond.selects RX5 yX5_costOf yX5_costOf]
def wsX5_best_r2 : List Cond := [Cond.code yX5_costOf cX5_costOf 5 (some .int), Cond.methodLink RX5 45 yX5_stops, Cond.instanceMethod yX5_stops, Cond.selects RX5 yX5_stops yX5_stops, Cond.code yX5_stops cX5_stops 4 (some .int), Cond.methodLink RX5 34 yX5_ofCaller, Cond.instanceMethod yX5_ofCaller, Cond.selects RX5 yX5_ofCaller yX5_ofCaller, Cond.code yX5_ofCaller cX5_ofCaller 3 (some .int), Cond.methodLink RX5 49 yX5_ones, Cond.static yX5_ones, Cond.code yX5_ones cX5_ones 3 (some .int), Cond.methodLink RX5 52 yX5_far, Cond.static yX5_far, Cond.code yX5_far cX5_far 2 (some .int), Cond.methodLink RX5 55 yX5_many, Cond.instanceMethod yX5_many, Cond.selects RX5 yX5_many yX5_many, Cond.code yX5_many cX5_many 5 (some .int)]
def wsX5_best : List Cond := .code yX5_best cX5_best 8 (some .int) :: ((wsX5_best_r1 ++ wsX5_best_r2) ++ wsX50)
def wsX5_gives_r1 : List Cond := [Cond.methodLink RX5 34 yX5_ofCaller, Cond.instanceMethod yX5_ofCaller, Cond.selects RX5 yX5_ofCaller yX5_ofCaller, Cond.initialized RX5, Cond.code yX5_ofCaller cX5_ofCaller 3 (some .int), Cond.fieldLink RX5 7 "GoalLiftsModel" "s" "[I", Cond.methodLink RX5 65 yX5_best, Cond.instanceMethod yX5_best, Cond.selects RX5 yX5_best yX5_best, Cond.code yX5_best cX5_best 8 (some .int), Cond.methodLink RX5 58 yX5_canBeGiven, Cond.instanceMethod yX5_canBeGiven, Cond.selects RX5 yX5_canBeGiven yX5_canBeGiven, Cond.code yX5_canBeGiven cX5_canBeGiven 5 (some .boolean), Cond.methodLink RX5 38 yX5_ofCar, Cond.instanceMethod yX5_ofCar, Cond.selects RX5 yX5_ofCar yX5_ofCar, Cond.code yX5_ofCar cX5_ofCar 3 (some .int), Cond.methodLink RX5 41 yX5_isAwake, Cond.instanceMethod yX5_isAwake, Cond.selects RX5 yX5_isAwake yX5_isAwake, Cond.code yX5_isAwake cX5_isAwake 2 (some .boolean), Cond.methodLink RX5 30 yX5_hour, Cond.instanceMethod yX5_hour]
def wsX5_gives_r2 : List Cond := [Cond.selects RX5 yX5_hour yX5_hour, Cond.code yX5_hour cX5_hour 1 (some .int), Cond.methodLink RX5 26 yX5_in, Cond.static yX5_in, Cond.code yX5_in cX5_in 3 (some .boolean), Cond.methodLink RX5 61 yX5_costOf, Cond.instanceMethod yX5_costOf, Cond.selects RX5 yX5_costOf yX5_costOf, Cond.code yX5_costOf cX5_costOf 5 (some .int), Cond.methodLink RX5 45 yX5_stops, Cond.instanceMethod yX5_stops, Cond.selects RX5 yX5_stops yX5_stops, Cond.code yX5_stops cX5_stops 4 (some .int), Cond.methodLink RX5 49 yX5_ones, Cond.static yX5_ones, Cond.code yX5_ones cX5_ones 3 (some .int), Cond.methodLink RX5 52 yX5_far, Cond.static yX5_far, Cond.code yX5_far cX5_far 2 (some .int), Cond.methodLink RX5 55 yX5_many, Cond.instanceMethod yX5_many, Cond.selects RX5 yX5_many yX5_many, Cond.code yX5_many cX5_many 5 (some .int), Cond.methodLink RX5 68 yX5_puts]
def wsX5_gives_r3 : List Cond := [Cond.instanceMethod yX5_puts, Cond.selects RX5 yX5_puts yX5_puts, Cond.code yX5_puts cX5_puts 4 none]
def wsX5_gives : List Cond := .code yX5_gives cX5_gives 3 none :: ((wsX5_gives_r1 ++ (wsX5_gives_r2 ++ wsX5_gives_r3)) ++ wsX50)
def wsX5_aim : List Cond := .code yX5_aim cX5_aim 8 (some .int) :: ([.fieldLink RX5 7 "GoalLiftsModel" "s" "[I", .methodLink RX5 38 yX5_ofCar, .instanceMethod yX5_ofCar, .selects RX5 yX5_ofCar yX5_ofCar, .initialized RX5, .code yX5_ofCar cX5_ofCar 3 (some .int), .methodLink RX5 34 yX5_ofCaller, .instanceMethod yX5_ofCaller, .selects RX5 yX5_ofCaller yX5_ofCaller, .code yX5_ofCaller cX5_ofCaller 3 (some .int), .methodLink RX5 52 yX5_far, .static yX5_far, .code yX5_far cX5_far 2 (some .int)] ++ wsX50)
def wsX5_isOut : List Cond := .code yX5_isOut cX5_isOut 3 (some .boolean) :: ([.methodLink RX5 34 yX5_ofCaller, .instanceMethod yX5_ofCaller, .selects RX5 yX5_ofCaller yX5_ofCaller, .initialized RX5, .code yX5_ofCaller cX5_ofCaller 3 (some .int), .fieldLink RX5 7 "GoalLiftsModel" "s" "[I", .methodLink RX5 38 yX5_ofCar, .instanceMethod yX5_ofCar, .selects RX5 yX5_ofCar yX5_ofCar, .code yX5_ofCar cX5_ofCar 3 (some .int)] ++ wsX50)
def wsX5_isTaken : List Cond := .code yX5_isTaken cX5_isTaken 3 (some .boolean) :: ([.methodLink RX5 34 yX5_ofCaller, .instanceMethod yX5_ofCaller, .selects RX5 yX5_ofCaller yX5_ofCaller, .initialized RX5, .code yX5_ofCaller cX5_ofCaller 3 (some .int), .fieldLink RX5 7 "GoalLiftsModel" "s" "[I", .methodLink RX5 38 yX5_ofCar, .instanceMethod yX5_ofCar, .selects RX5 yX5_ofCar yX5_ofCar, .code yX5_ofCar cX5_ofCar 3 (some .int)] ++ wsX50)
def wsX5_isStop : List Cond := .code yX5_isStop cX5_isStop 5 (some .boolean) :: ([.fieldLink RX5 7 "GoalLiftsModel" "s" "[I", .methodLink RX5 72 yX5_isOut, .instanceMethod yX5_isOut, .selects RX5 yX5_isOut yX5_isOut, .initialized RX5, .code yX5_isOut cX5_isOut 3 (some .boolean), .methodLink RX5 34 yX5_ofCaller, .instanceMethod yX5_ofCaller, .selects RX5 yX5_ofCaller yX5_ofCaller, .code yX5_ofCaller cX5_ofCaller 3 (some .int), .methodLink RX5 38 yX5_ofCar, .instanceMethod yX5_ofCar, .selects RX5 yX5_ofCar yX5_ofCar, .code yX5_ofCar cX5_ofCar 3 (some .int), .methodLink RX5 76 yX5_isTaken, .instanceMethod yX5_isTaken, .selects RX5 yX5_isTaken yX5_isTaken, .code yX5_isTaken cX5_isTaken 3 (some .boolean), .methodLink RX5 55 yX5_many, .instanceMethod yX5_many, .selects RX5 yX5_many yX5_many, .code yX5_many cX5_many 5 (some .int)] ++ wsX50)
def wsX5_stopsNow_r1 : List Cond := [Cond.fieldLink RX5 7 "GoalLiftsModel" "s" "[I", Cond.methodLink RX5 72 yX5_isOut, Cond.instanceMethod yX5_isOut, Cond.selects RX5 yX5_isOut yX5_isOut, Cond.initialized RX5, Cond.code yX5_isOut cX5_isOut 3 (some .boolean), Cond.methodLink RX5 34 yX5_ofCaller, Cond.instanceMethod yX5_ofCaller, Cond.selects RX5 yX5_ofCaller yX5_ofCaller, Cond.code yX5_ofCaller cX5_ofCaller 3 (some .int), Cond.methodLink RX5 38 yX5_ofCar, Cond.instanceMethod yX5_ofCar, Cond.selects RX5 yX5_ofCar yX5_ofCar, Cond.code yX5_ofCar cX5_ofCar 3 (some .int), Cond.methodLink RX5 68 yX5_puts, Cond.instanceMethod yX5_puts, Cond.selects RX5 yX5_puts yX5_puts, Cond.code yX5_puts cX5_puts 4 none, Cond.methodLink RX5 76 yX5_isTaken, Cond.instanceMethod yX5_isTaken, Cond.selects RX5 yX5_isTaken yX5_isTaken, Cond.code yX5_isTaken cX5_isTaken 3 (some .boolean), Cond.methodLink RX5 55 yX5_many, Cond.instanceMethod yX5_many]
def wsX5_stopsNow_r2 : List Cond := [Cond.selects RX5 yX5_many yX5_many, Cond.code yX5_many cX5_many 5 (some .int)]
def wsX5_stopsNow : List Cond := .code yX5_stopsNow cX5_stopsNow 3 none :: ((wsX5_stopsNow_r1 ++ wsX5_stopsNow_r2) ++ wsX50)
def wsX5_ticks_r1 : List Cond := [Cond.fieldLink RX5 7 "GoalLiftsModel" "s" "[I", Cond.methodLink RX5 34 yX5_ofCaller, Cond.instanceMethod yX5_ofCaller, Cond.selects RX5 yX5_ofCaller yX5_ofCaller, Cond.initialized RX5, Cond.code yX5_ofCaller cX5_ofCaller 3 (some .int), Cond.methodLink RX5 79 yX5_gives, Cond.instanceMethod yX5_gives, Cond.selects RX5 yX5_gives yX5_gives, Cond.code yX5_gives cX5_gives 3 none, Cond.methodLink RX5 65 yX5_best, Cond.instanceMethod yX5_best, Cond.selects RX5 yX5_best yX5_best, Cond.code yX5_best cX5_best 8 (some .int), Cond.methodLink RX5 58 yX5_canBeGiven, Cond.instanceMethod yX5_canBeGiven, Cond.selects RX5 yX5_canBeGiven yX5_canBeGiven, Cond.code yX5_canBeGiven cX5_canBeGiven 5 (some .boolean), Cond.methodLink RX5 38 yX5_ofCar, Cond.instanceMethod yX5_ofCar, Cond.selects RX5 yX5_ofCar yX5_ofCar, Cond.code yX5_ofCar cX5_ofCar 3 (some .int), Cond.methodLink RX5 41 yX5_isAwake, Cond.instanceMethod yX5_isAwake]
def wsX5_ticks_r2 : List Cond := [Cond.selects RX5 yX5_isAwake yX5_isAwake, Cond.code yX5_isAwake cX5_isAwake 2 (some .boolean), Cond.methodLink RX5 30 yX5_hour, Cond.instanceMethod yX5_hour, Cond.selects RX5 yX5_hour yX5_hour, Cond.code yX5_hour cX5_hour 1 (some .int), Cond.methodLink RX5 26 yX5_in, Cond.static yX5_in, Cond.code yX5_in cX5_in 3 (some .boolean), Cond.methodLink RX5 61 yX5_costOf, Cond.instanceMethod yX5_costOf, Cond.selects RX5 yX5_costOf yX5_costOf, Cond.code yX5_costOf cX5_costOf 5 (some .int), Cond.methodLink RX5 45 yX5_stops, Cond.instanceMethod yX5_stops, Cond.selects RX5 yX5_stops yX5_stops, Cond.code yX5_stops cX5_stops 4 (some .int), Cond.methodLink RX5 49 yX5_ones, Cond.static yX5_ones, Cond.code yX5_ones cX5_ones 3 (some .int), Cond.methodLink RX5 52 yX5_far, Cond.static yX5_far, Cond.code yX5_far cX5_far 2 (some .int), Cond.methodLink RX5 55 yX5_many]
def wsX5_ticks_r3 : List Cond := [Cond.instanceMethod yX5_many, Cond.selects RX5 yX5_many yX5_many, Cond.code yX5_many cX5_many 5 (some .int), Cond.methodLink RX5 68 yX5_puts, Cond.instanceMethod yX5_puts, Cond.selects RX5 yX5_puts yX5_puts, Cond.code yX5_puts cX5_puts 4 none, Cond.methodLink RX5 83 yX5_aim, Cond.instanceMethod yX5_aim, Cond.selects RX5 yX5_aim yX5_aim, Cond.code yX5_aim cX5_aim 8 (some .int), Cond.methodLink RX5 86 yX5_isStop, Cond.instanceMethod yX5_isStop, Cond.selects RX5 yX5_isStop yX5_isStop, Cond.code yX5_isStop cX5_isStop 5 (some .boolean), Cond.methodLink RX5 72 yX5_isOut, Cond.instanceMethod yX5_isOut, Cond.selects RX5 yX5_isOut yX5_isOut, Cond.code yX5_isOut cX5_isOut 3 (some .boolean), Cond.methodLink RX5 76 yX5_isTaken, Cond.instanceMethod yX5_isTaken, Cond.selects RX5 yX5_isTaken yX5_isTaken, Cond.code yX5_isTaken cX5_isTaken 3 (some .boolean), Cond.methodLink RX5 89 yX5_stopsNow]
def wsX5_ticks_r4 : List Cond := [Cond.instanceMethod yX5_stopsNow, Cond.selects RX5 yX5_stopsNow yX5_stopsNow, Cond.code yX5_stopsNow cX5_stopsNow 3 none, Cond.methodLink RX5 92 yX5_putsCar, Cond.instanceMethod yX5_putsCar, Cond.selects RX5 yX5_putsCar yX5_putsCar, Cond.code yX5_putsCar cX5_putsCar 4 none]
def wsX5_ticks : List Cond := .code yX5_ticks cX5_ticks 3 none :: ((wsX5_ticks_r1 ++ (wsX5_ticks_r2 ++ (wsX5_ticks_r3 ++ wsX5_ticks_r4))) ++ wsX50)
def wsX5_fails_r1 : List Cond := [Cond.fieldLink RX5 7 "GoalLiftsModel" "s" "[I", Cond.methodLink RX5 34 yX5_ofCaller, Cond.instanceMethod yX5_ofCaller, Cond.selects RX5 yX5_ofCaller yX5_ofCaller, Cond.initialized RX5, Cond.code yX5_ofCaller cX5_ofCaller 3 (some .int), Cond.methodLink RX5 26 yX5_in, Cond.static yX5_in, Cond.code yX5_in cX5_in 3 (some .boolean), Cond.methodLink RX5 72 yX5_isOut, Cond.instanceMethod yX5_isOut, Cond.selects RX5 yX5_isOut yX5_isOut, Cond.code yX5_isOut cX5_isOut 3 (some .boolean), Cond.methodLink RX5 38 yX5_ofCar, Cond.instanceMethod yX5_ofCar, Cond.selects RX5 yX5_ofCar yX5_ofCar, Cond.code yX5_ofCar cX5_ofCar 3 (some .int), Cond.methodLink RX5 68 yX5_puts, Cond.instanceMethod yX5_puts, Cond.selects RX5 yX5_puts yX5_puts, Cond.code yX5_puts cX5_puts 4 none, Cond.methodLink RX5 92 yX5_putsCar, Cond.instanceMethod yX5_putsCar, Cond.selects RX5 yX5_putsCar yX5_putsCar]
def wsX5_fails_r2 : List Cond := [Cond.code yX5_putsCar cX5_putsCar 4 none]
def wsX5_fails : List Cond := .code yX5_fails cX5_fails 4 none :: ((wsX5_fails_r1 ++ wsX5_fails_r2) ++ wsX50)
def wsX5_addCar : List Cond := .code yX5_addCar cX5_addCar 5 (some .int) :: ([.fieldLink RX5 7 "GoalLiftsModel" "s" "[I", .methodLink RX5 26 yX5_in, .static yX5_in, .initialized RX5, .code yX5_in cX5_in 3 (some .boolean), .methodLink RX5 95 yX5_acts, .instanceMethod yX5_acts, .selects RX5 yX5_acts yX5_acts, .code yX5_acts cX5_acts 2 none, .fieldLink RX5 22 "GoalLiftsModel" "pasts" "I", .fieldLink RX5 13 "GoalLiftsModel" "past" "[I", .methodLink RX5 92 yX5_putsCar, .instanceMethod yX5_putsCar, .selects RX5 yX5_putsCar yX5_putsCar, .code yX5_putsCar cX5_putsCar 4 none] ++ wsX50)
def wsX5_setAwake : List Cond := .code yX5_setAwake cX5_setAwake 4 (some .int) :: ([.fieldLink RX5 7 "GoalLiftsModel" "s" "[I", .methodLink RX5 26 yX5_in, .static yX5_in, .initialized RX5, .code yX5_in cX5_in 3 (some .boolean), .methodLink RX5 95 yX5_acts, .instanceMethod yX5_acts, .selects RX5 yX5_acts yX5_acts, .code yX5_acts cX5_acts 2 none, .fieldLink RX5 22 "GoalLiftsModel" "pasts" "I", .fieldLink RX5 13 "GoalLiftsModel" "past" "[I"] ++ wsX50)
def wsX5_hold_r1 : List Cond := [Cond.methodLink RX5 98 yX5_isCar, Cond.instanceMethod yX5_isCar, Cond.selects RX5 yX5_isCar yX5_isCar, Cond.initialized RX5, Cond.code yX5_isCar cX5_isCar 2 (some .boolean), Cond.fieldLink RX5 7 "GoalLiftsModel" "s" "[I", Cond.methodLink RX5 26 yX5_in, Cond.static yX5_in, Cond.code yX5_in cX5_in 3 (some .boolean), Cond.methodLink RX5 38 yX5_ofCar, Cond.instanceMethod yX5_ofCar, Cond.selects RX5 yX5_ofCar yX5_ofCar, Cond.code yX5_ofCar cX5_ofCar 3 (some .int), Cond.methodLink RX5 95 yX5_acts, Cond.instanceMethod yX5_acts, Cond.selects RX5 yX5_acts yX5_acts, Cond.code yX5_acts cX5_acts 2 none, Cond.fieldLink RX5 22 "GoalLiftsModel" "pasts" "I", Cond.fieldLink RX5 13 "GoalLiftsModel" "past" "[I", Cond.methodLink RX5 92 yX5_putsCar, Cond.instanceMethod yX5_putsCar, Cond.selects RX5 yX5_putsCar yX5_putsCar, Cond.code yX5_putsCar cX5_putsCar 4 none, Cond.methodLink RX5 55 yX5_many]
def wsX5_hold_r2 : List Cond := [Cond.instanceMethod yX5_many, Cond.selects RX5 yX5_many yX5_many, Cond.code yX5_many cX5_many 5 (some .int), Cond.methodLink RX5 34 yX5_ofCaller, Cond.instanceMethod yX5_ofCaller, Cond.selects RX5 yX5_ofCaller yX5_ofCaller, Cond.code yX5_ofCaller cX5_ofCaller 3 (some .int)]
def wsX5_hold : List Cond := .code yX5_hold cX5_hold 3 (some .int) :: ((wsX5_hold_r1 ++ wsX5_hold_r2) ++ wsX50)
def wsX5_fail_r1 : List Cond := [Cond.methodLink RX5 98 yX5_isCar, Cond.instanceMethod yX5_isCar, Cond.selects RX5 yX5_isCar yX5_isCar, Cond.initialized RX5, Cond.code yX5_isCar cX5_isCar 2 (some .boolean), Cond.fieldLink RX5 7 "GoalLiftsModel" "s" "[I", Cond.methodLink RX5 38 yX5_ofCar, Cond.instanceMethod yX5_ofCar, Cond.selects RX5 yX5_ofCar yX5_ofCar, Cond.code yX5_ofCar cX5_ofCar 3 (some .int), Cond.methodLink RX5 95 yX5_acts, Cond.instanceMethod yX5_acts, Cond.selects RX5 yX5_acts yX5_acts, Cond.code yX5_acts cX5_acts 2 none, Cond.fieldLink RX5 22 "GoalLiftsModel" "pasts" "I", Cond.fieldLink RX5 13 "GoalLiftsModel" "past" "[I", Cond.methodLink RX5 101 yX5_fails, Cond.instanceMethod yX5_fails, Cond.selects RX5 yX5_fails yX5_fails, Cond.code yX5_fails cX5_fails 4 none, Cond.methodLink RX5 34 yX5_ofCaller, Cond.instanceMethod yX5_ofCaller, Cond.selects RX5 yX5_ofCaller yX5_ofCaller, Cond.code yX5_ofCaller cX5_ofCaller 3 (some .int)]
def wsX5_fail_r2 : List Cond := [Cond.methodLink RX5 26 yX5_in, Cond.static yX5_in, Cond.code yX5_in cX5_in 3 (some .boolean), Cond.methodLink RX5 72 yX5_isOut, Cond.instanceMethod yX5_isOut, Cond.selects RX5 yX5_isOut yX5_isOut, Cond.code yX5_isOut cX5_isOut 3 (some .boolean), Cond.methodLink RX5 68 yX5_puts, Cond.instanceMethod yX5_puts, Cond.selects RX5 yX5_puts yX5_puts, Cond.code yX5_puts cX5_puts 4 none, Cond.methodLink RX5 92 yX5_putsCar, Cond.instanceMethod yX5_putsCar, Cond.selects RX5 yX5_putsCar yX5_putsCar, Cond.code yX5_putsCar cX5_putsCar 4 none, Cond.methodLink RX5 104 yX5_inAll, Cond.instanceMethod yX5_inAll, Cond.selects RX5 yX5_inAll yX5_inAll, Cond.code yX5_inAll cX5_inAll 4 (some .int)]
def wsX5_fail : List Cond := .code yX5_fail cX5_fail 2 (some .int) :: ((wsX5_fail_r1 ++ wsX5_fail_r2) ++ wsX50)
def wsX5_repair : List Cond := .code yX5_repair cX5_repair 2 (some .int) :: ([.methodLink RX5 98 yX5_isCar, .instanceMethod yX5_isCar, .selects RX5 yX5_isCar yX5_isCar, .initialized RX5, .code yX5_isCar cX5_isCar 2 (some .boolean), .fieldLink RX5 7 "GoalLiftsModel" "s" "[I", .methodLink RX5 38 yX5_ofCar, .instanceMethod yX5_ofCar, .selects RX5 yX5_ofCar yX5_ofCar, .code yX5_ofCar cX5_ofCar 3 (some .int), .methodLink RX5 95 yX5_acts, .instanceMethod yX5_acts, .selects RX5 yX5_acts yX5_acts, .code yX5_acts cX5_acts 2 none, .fieldLink RX5 22 "GoalLiftsModel" "pasts" "I", .fieldLink RX5 13 "GoalLiftsModel" "past" "[I", .methodLink RX5 92 yX5_putsCar, .instanceMethod yX5_putsCar, .selects RX5 yX5_putsCar yX5_putsCar, .code yX5_putsCar cX5_putsCar 4 none] ++ wsX50)
def wsX5_isWay : List Cond := .code yX5_isWay cX5_isWay 2 (some .boolean) :: ([.methodLink RX5 107 yX5_isFloor, .static yX5_isFloor, .initialized RX5, .code yX5_isFloor cX5_isFloor 1 (some .boolean), .methodLink RX5 26 yX5_in, .static yX5_in, .code yX5_in cX5_in 3 (some .boolean)])
def wsX5_call_r1 : List Cond := [Cond.fieldLink RX5 7 "GoalLiftsModel" "s" "[I", Cond.methodLink RX5 110 yX5_isWay, Cond.static yX5_isWay, Cond.initialized RX5, Cond.code yX5_isWay cX5_isWay 2 (some .boolean), Cond.methodLink RX5 107 yX5_isFloor, Cond.static yX5_isFloor, Cond.code yX5_isFloor cX5_isFloor 1 (some .boolean), Cond.methodLink RX5 26 yX5_in, Cond.static yX5_in, Cond.code yX5_in cX5_in 3 (some .boolean), Cond.methodLink RX5 95 yX5_acts, Cond.instanceMethod yX5_acts, Cond.selects RX5 yX5_acts yX5_acts, Cond.code yX5_acts cX5_acts 2 none, Cond.fieldLink RX5 22 "GoalLiftsModel" "pasts" "I", Cond.fieldLink RX5 13 "GoalLiftsModel" "past" "[I", Cond.methodLink RX5 68 yX5_puts, Cond.instanceMethod yX5_puts, Cond.selects RX5 yX5_puts yX5_puts, Cond.code yX5_puts cX5_puts 4 none, Cond.methodLink RX5 79 yX5_gives, Cond.instanceMethod yX5_gives, Cond.selects RX5 yX5_gives yX5_gives]
def wsX5_call_r2 : List Cond := [Cond.code yX5_gives cX5_gives 3 none, Cond.methodLink RX5 34 yX5_ofCaller, Cond.instanceMethod yX5_ofCaller, Cond.selects RX5 yX5_ofCaller yX5_ofCaller, Cond.code yX5_ofCaller cX5_ofCaller 3 (some .int), Cond.methodLink RX5 65 yX5_best, Cond.instanceMethod yX5_best, Cond.selects RX5 yX5_best yX5_best, Cond.code yX5_best cX5_best 8 (some .int), Cond.methodLink RX5 58 yX5_canBeGiven, Cond.instanceMethod yX5_canBeGiven, Cond.selects RX5 yX5_canBeGiven yX5_canBeGiven, Cond.code yX5_canBeGiven cX5_canBeGiven 5 (some .boolean), Cond.methodLink RX5 38 yX5_ofCar, Cond.instanceMethod yX5_ofCar, Cond.selects RX5 yX5_ofCar yX5_ofCar, Cond.code yX5_ofCar cX5_ofCar 3 (some .int), Cond.methodLink RX5 41 yX5_isAwake, Cond.instanceMethod yX5_isAwake, Cond.selects RX5 yX5_isAwake yX5_isAwake, Cond.code yX5_isAwake cX5_isAwake 2 (some .boolean), Cond.methodLink RX5 30 yX5_hour, Cond.instanceMethod yX5_hour, Cond.selects RX5 yX5_hour yX5_hour]
def wsX5_call_r3 : List Cond := [Cond.code yX5_hour cX5_hour 1 (some .int), Cond.methodLink RX5 61 yX5_costOf, Cond.instanceMethod yX5_costOf, Cond.selects RX5 yX5_costOf yX5_costOf, Cond.code yX5_costOf cX5_costOf 5 (some .int), Cond.methodLink RX5 45 yX5_stops, Cond.instanceMethod yX5_stops, Cond.selects RX5 yX5_stops yX5_stops, Cond.code yX5_stops cX5_stops 4 (some .int), Cond.methodLink RX5 49 yX5_ones, Cond.static yX5_ones, Cond.code yX5_ones cX5_ones 3 (some .int), Cond.methodLink RX5 52 yX5_far, Cond.static yX5_far, Cond.code yX5_far cX5_far 2 (some .int), Cond.methodLink RX5 55 yX5_many, Cond.instanceMethod yX5_many, Cond.selects RX5 yX5_many yX5_many, Cond.code yX5_many cX5_many 5 (some .int)]
def wsX5_call : List Cond := .code yX5_call cX5_call 4 (some .int) :: ((wsX5_call_r1 ++ (wsX5_call_r2 ++ wsX5_call_r3)) ++ wsX50)
def wsX5_pass_r1 : List Cond := [Cond.fieldLink RX5 7 "GoalLiftsModel" "s" "[I", Cond.methodLink RX5 26 yX5_in, Cond.static yX5_in, Cond.initialized RX5, Cond.code yX5_in cX5_in 3 (some .boolean), Cond.methodLink RX5 95 yX5_acts, Cond.instanceMethod yX5_acts, Cond.selects RX5 yX5_acts yX5_acts, Cond.code yX5_acts cX5_acts 2 none, Cond.fieldLink RX5 22 "GoalLiftsModel" "pasts" "I", Cond.fieldLink RX5 13 "GoalLiftsModel" "past" "[I", Cond.methodLink RX5 113 yX5_ticks, Cond.instanceMethod yX5_ticks, Cond.selects RX5 yX5_ticks yX5_ticks, Cond.code yX5_ticks cX5_ticks 3 none, Cond.methodLink RX5 34 yX5_ofCaller, Cond.instanceMethod yX5_ofCaller, Cond.selects RX5 yX5_ofCaller yX5_ofCaller, Cond.code yX5_ofCaller cX5_ofCaller 3 (some .int), Cond.methodLink RX5 79 yX5_gives, Cond.instanceMethod yX5_gives, Cond.selects RX5 yX5_gives yX5_gives, Cond.code yX5_gives cX5_gives 3 none, Cond.methodLink RX5 65 yX5_best]
def wsX5_pass_r2 : List Cond := [Cond.instanceMethod yX5_best, Cond.selects RX5 yX5_best yX5_best, Cond.code yX5_best cX5_best 8 (some .int), Cond.methodLink RX5 58 yX5_canBeGiven, Cond.instanceMethod yX5_canBeGiven, Cond.selects RX5 yX5_canBeGiven yX5_canBeGiven, Cond.code yX5_canBeGiven cX5_canBeGiven 5 (some .boolean), Cond.methodLink RX5 38 yX5_ofCar, Cond.instanceMethod yX5_ofCar, Cond.selects RX5 yX5_ofCar yX5_ofCar, Cond.code yX5_ofCar cX5_ofCar 3 (some .int), Cond.methodLink RX5 41 yX5_isAwake, Cond.instanceMethod yX5_isAwake, Cond.selects RX5 yX5_isAwake yX5_isAwake, Cond.code yX5_isAwake cX5_isAwake 2 (some .boolean), Cond.methodLink RX5 30 yX5_hour, Cond.instanceMethod yX5_hour, Cond.selects RX5 yX5_hour yX5_hour, Cond.code yX5_hour cX5_hour 1 (some .int), Cond.methodLink RX5 61 yX5_costOf, Cond.instanceMethod yX5_costOf, Cond.selects RX5 yX5_costOf yX5_costOf, Cond.code yX5_costOf cX5_costOf 5 (some .int), Cond.methodLink RX5 45 yX5_stops]
def wsX5_pass_r3 : List Cond := [Cond.instanceMethod yX5_stops, Cond.selects RX5 yX5_stops yX5_stops, Cond.code yX5_stops cX5_stops 4 (some .int), Cond.methodLink RX5 49 yX5_ones, Cond.static yX5_ones, Cond.code yX5_ones cX5_ones 3 (some .int), Cond.methodLink RX5 52 yX5_far, Cond.static yX5_far, Cond.code yX5_far cX5_far 2 (some .int), Cond.methodLink RX5 55 yX5_many, Cond.instanceMethod yX5_many, Cond.selects RX5 yX5_many yX5_many, Cond.code yX5_many cX5_many 5 (some .int), Cond.methodLink RX5 68 yX5_puts, Cond.instanceMethod yX5_puts, Cond.selects RX5 yX5_puts yX5_puts, Cond.code yX5_puts cX5_puts 4 none, Cond.methodLink RX5 83 yX5_aim, Cond.instanceMethod yX5_aim, Cond.selects RX5 yX5_aim yX5_aim, Cond.code yX5_aim cX5_aim 8 (some .int), Cond.methodLink RX5 86 yX5_isStop, Cond.instanceMethod yX5_isStop, Cond.selects RX5 yX5_isStop yX5_isStop]
def wsX5_pass_r4 : List Cond := [Cond.code yX5_isStop cX5_isStop 5 (some .boolean), Cond.methodLink RX5 72 yX5_isOut, Cond.instanceMethod yX5_isOut, Cond.selects RX5 yX5_isOut yX5_isOut, Cond.code yX5_isOut cX5_isOut 3 (some .boolean), Cond.methodLink RX5 76 yX5_isTaken, Cond.instanceMethod yX5_isTaken, Cond.selects RX5 yX5_isTaken yX5_isTaken, Cond.code yX5_isTaken cX5_isTaken 3 (some .boolean), Cond.methodLink RX5 89 yX5_stopsNow, Cond.instanceMethod yX5_stopsNow, Cond.selects RX5 yX5_stopsNow yX5_stopsNow, Cond.code yX5_stopsNow cX5_stopsNow 3 none, Cond.methodLink RX5 92 yX5_putsCar, Cond.instanceMethod yX5_putsCar, Cond.selects RX5 yX5_putsCar yX5_putsCar, Cond.code yX5_putsCar cX5_putsCar 4 none, Cond.methodLink RX5 104 yX5_inAll, Cond.instanceMethod yX5_inAll, Cond.selects RX5 yX5_inAll yX5_inAll, Cond.code yX5_inAll cX5_inAll 4 (some .int)]
def wsX5_pass : List Cond := .code yX5_pass cX5_pass 3 (some .int) :: ((wsX5_pass_r1 ++ (wsX5_pass_r2 ++ (wsX5_pass_r3 ++ wsX5_pass_r4))) ++ wsX50)
def wsX5_undo : List Cond := .code yX5_undo cX5_undo 2 (some .int) :: ([.fieldLink RX5 22 "GoalLiftsModel" "pasts" "I", .fieldLink RX5 7 "GoalLiftsModel" "s" "[I", .fieldLink RX5 13 "GoalLiftsModel" "past" "[I"] ++ wsX50)
def wsX5_isOpen : List Cond := .code yX5_isOpen cX5_isOpen 2 (some .boolean) :: ([.methodLink RX5 34 yX5_ofCaller, .instanceMethod yX5_ofCaller, .selects RX5 yX5_ofCaller yX5_ofCaller, .initialized RX5, .code yX5_ofCaller cX5_ofCaller 3 (some .int), .fieldLink RX5 7 "GoalLiftsModel" "s" "[I"] ++ wsX50)
def wsX5_areOne : List Cond := .code yX5_areOne cX5_areOne 3 (some .boolean) :: ([.methodLink RX5 34 yX5_ofCaller, .instanceMethod yX5_ofCaller, .selects RX5 yX5_ofCaller yX5_ofCaller, .initialized RX5, .code yX5_ofCaller cX5_ofCaller 3 (some .int), .fieldLink RX5 7 "GoalLiftsModel" "s" "[I"] ++ wsX50)
def wsX5_isFirst : List Cond := .code yX5_isFirst cX5_isFirst 4 (some .boolean) :: ([.methodLink RX5 116 yX5_isOpen, .instanceMethod yX5_isOpen, .selects RX5 yX5_isOpen yX5_isOpen, .initialized RX5, .code yX5_isOpen cX5_isOpen 2 (some .boolean), .methodLink RX5 34 yX5_ofCaller, .instanceMethod yX5_ofCaller, .selects RX5 yX5_ofCaller yX5_ofCaller, .code yX5_ofCaller cX5_ofCaller 3 (some .int), .fieldLink RX5 7 "GoalLiftsModel" "s" "[I", .methodLink RX5 119 yX5_areOne, .instanceMethod yX5_areOne, .selects RX5 yX5_areOne yX5_areOne, .code yX5_areOne cX5_areOne 3 (some .boolean)] ++ wsX50)
def wsX5_groups : List Cond := .code yX5_groups cX5_groups 3 (some .int) :: ([.fieldLink RX5 7 "GoalLiftsModel" "s" "[I", .methodLink RX5 122 yX5_isFirst, .instanceMethod yX5_isFirst, .selects RX5 yX5_isFirst yX5_isFirst, .initialized RX5, .code yX5_isFirst cX5_isFirst 4 (some .boolean), .methodLink RX5 116 yX5_isOpen, .instanceMethod yX5_isOpen, .selects RX5 yX5_isOpen yX5_isOpen, .code yX5_isOpen cX5_isOpen 2 (some .boolean), .methodLink RX5 34 yX5_ofCaller, .instanceMethod yX5_ofCaller, .selects RX5 yX5_ofCaller yX5_ofCaller, .code yX5_ofCaller cX5_ofCaller 3 (some .int), .methodLink RX5 119 yX5_areOne, .instanceMethod yX5_areOne, .selects RX5 yX5_areOne yX5_areOne, .code yX5_areOne cX5_areOne 3 (some .boolean)] ++ wsX50)
def wsX5_sumOfCars : List Cond := .code yX5_sumOfCars cX5_sumOfCars 5 (some .int) :: ([.fieldLink RX5 7 "GoalLiftsModel" "s" "[I", .methodLink RX5 38 yX5_ofCar, .instanceMethod yX5_ofCar, .selects RX5 yX5_ofCar yX5_ofCar, .initialized RX5, .code yX5_ofCar cX5_ofCar 3 (some .int)] ++ wsX50)
def wsX5_count_r1 : List Cond := [Cond.fieldLink RX5 7 "GoalLiftsModel" "s" "[I", Cond.fieldLink RX5 22 "GoalLiftsModel" "pasts" "I", Cond.methodLink RX5 30 yX5_hour, Cond.instanceMethod yX5_hour, Cond.selects RX5 yX5_hour yX5_hour, Cond.initialized RX5, Cond.code yX5_hour cX5_hour 1 (some .int), Cond.methodLink RX5 104 yX5_inAll, Cond.instanceMethod yX5_inAll, Cond.selects RX5 yX5_inAll yX5_inAll, Cond.code yX5_inAll cX5_inAll 4 (some .int), Cond.methodLink RX5 34 yX5_ofCaller, Cond.instanceMethod yX5_ofCaller, Cond.selects RX5 yX5_ofCaller yX5_ofCaller, Cond.code yX5_ofCaller cX5_ofCaller 3 (some .int), Cond.methodLink RX5 125 yX5_groups, Cond.instanceMethod yX5_groups, Cond.selects RX5 yX5_groups yX5_groups, Cond.code yX5_groups cX5_groups 3 (some .int), Cond.methodLink RX5 122 yX5_isFirst, Cond.instanceMethod yX5_isFirst, Cond.selects RX5 yX5_isFirst yX5_isFirst, Cond.code yX5_isFirst cX5_isFirst 4 (some .boolean), Cond.methodLink RX5 116 yX5_isOpen]
def wsX5_count_r2 : List Cond := [Cond.instanceMethod yX5_isOpen, Cond.selects RX5 yX5_isOpen yX5_isOpen, Cond.code yX5_isOpen cX5_isOpen 2 (some .boolean), Cond.methodLink RX5 119 yX5_areOne, Cond.instanceMethod yX5_areOne, Cond.selects RX5 yX5_areOne yX5_areOne, Cond.code yX5_areOne cX5_areOne 3 (some .boolean), Cond.methodLink RX5 128 yX5_sumOfCars, Cond.instanceMethod yX5_sumOfCars, Cond.selects RX5 yX5_sumOfCars yX5_sumOfCars, Cond.code yX5_sumOfCars cX5_sumOfCars 5 (some .int), Cond.methodLink RX5 38 yX5_ofCar, Cond.instanceMethod yX5_ofCar, Cond.selects RX5 yX5_ofCar yX5_ofCar, Cond.code yX5_ofCar cX5_ofCar 3 (some .int)]
def wsX5_count : List Cond := .code yX5_count cX5_count 2 (some .int) :: ((wsX5_count_r1 ++ wsX5_count_r2) ++ wsX50)
def wsX5_car_r1 : List Cond := [Cond.methodLink RX5 98 yX5_isCar, Cond.instanceMethod yX5_isCar, Cond.selects RX5 yX5_isCar yX5_isCar, Cond.initialized RX5, Cond.code yX5_isCar cX5_isCar 2 (some .boolean), Cond.fieldLink RX5 7 "GoalLiftsModel" "s" "[I", Cond.methodLink RX5 38 yX5_ofCar, Cond.instanceMethod yX5_ofCar, Cond.selects RX5 yX5_ofCar yX5_ofCar, Cond.code yX5_ofCar cX5_ofCar 3 (some .int), Cond.methodLink RX5 55 yX5_many, Cond.instanceMethod yX5_many, Cond.selects RX5 yX5_many yX5_many, Cond.code yX5_many cX5_many 5 (some .int), Cond.methodLink RX5 34 yX5_ofCaller, Cond.instanceMethod yX5_ofCaller, Cond.selects RX5 yX5_ofCaller yX5_ofCaller, Cond.code yX5_ofCaller cX5_ofCaller 3 (some .int), Cond.methodLink RX5 45 yX5_stops, Cond.instanceMethod yX5_stops, Cond.selects RX5 yX5_stops yX5_stops, Cond.code yX5_stops cX5_stops 4 (some .int), Cond.methodLink RX5 26 yX5_in, Cond.static yX5_in]
def wsX5_car_r2 : List Cond := [Cond.code yX5_in cX5_in 3 (some .boolean), Cond.methodLink RX5 49 yX5_ones, Cond.static yX5_ones, Cond.code yX5_ones cX5_ones 3 (some .int), Cond.methodLink RX5 83 yX5_aim, Cond.instanceMethod yX5_aim, Cond.selects RX5 yX5_aim yX5_aim, Cond.code yX5_aim cX5_aim 8 (some .int), Cond.methodLink RX5 52 yX5_far, Cond.static yX5_far, Cond.code yX5_far cX5_far 2 (some .int), Cond.methodLink RX5 41 yX5_isAwake, Cond.instanceMethod yX5_isAwake, Cond.selects RX5 yX5_isAwake yX5_isAwake, Cond.code yX5_isAwake cX5_isAwake 2 (some .boolean), Cond.methodLink RX5 30 yX5_hour, Cond.instanceMethod yX5_hour, Cond.selects RX5 yX5_hour yX5_hour, Cond.code yX5_hour cX5_hour 1 (some .int)]
def wsX5_car : List Cond := .code yX5_car cX5_car 3 (some .int) :: ((wsX5_car_r1 ++ wsX5_car_r2) ++ wsX50)
def wsX5_caller : List Cond := .code yX5_caller cX5_caller 3 (some .int) :: ([.methodLink RX5 131 yX5_isCaller, .instanceMethod yX5_isCaller, .selects RX5 yX5_isCaller yX5_isCaller, .initialized RX5, .code yX5_isCaller cX5_isCaller 2 (some .boolean), .fieldLink RX5 7 "GoalLiftsModel" "s" "[I", .methodLink RX5 26 yX5_in, .static yX5_in, .code yX5_in cX5_in 3 (some .boolean), .methodLink RX5 34 yX5_ofCaller, .instanceMethod yX5_ofCaller, .selects RX5 yX5_ofCaller yX5_ofCaller, .code yX5_ofCaller cX5_ofCaller 3 (some .int)] ++ wsX50)
def wsX5_group : List Cond := .code yX5_group cX5_group 7 (some .int) :: ([.fieldLink RX5 7 "GoalLiftsModel" "s" "[I", .methodLink RX5 26 yX5_in, .static yX5_in, .initialized RX5, .code yX5_in cX5_in 3 (some .boolean), .methodLink RX5 122 yX5_isFirst, .instanceMethod yX5_isFirst, .selects RX5 yX5_isFirst yX5_isFirst, .code yX5_isFirst cX5_isFirst 4 (some .boolean), .methodLink RX5 116 yX5_isOpen, .instanceMethod yX5_isOpen, .selects RX5 yX5_isOpen yX5_isOpen, .code yX5_isOpen cX5_isOpen 2 (some .boolean), .methodLink RX5 34 yX5_ofCaller, .instanceMethod yX5_ofCaller, .selects RX5 yX5_ofCaller yX5_ofCaller, .code yX5_ofCaller cX5_ofCaller 3 (some .int), .methodLink RX5 119 yX5_areOne, .instanceMethod yX5_areOne, .selects RX5 yX5_areOne yX5_areOne, .code yX5_areOne cX5_areOne 3 (some .boolean)] ++ wsX50)
def wsX5_cost_r1 : List Cond := [Cond.methodLink RX5 98 yX5_isCar, Cond.instanceMethod yX5_isCar, Cond.selects RX5 yX5_isCar yX5_isCar, Cond.initialized RX5, Cond.code yX5_isCar cX5_isCar 2 (some .boolean), Cond.fieldLink RX5 7 "GoalLiftsModel" "s" "[I", Cond.methodLink RX5 110 yX5_isWay, Cond.static yX5_isWay, Cond.code yX5_isWay cX5_isWay 2 (some .boolean), Cond.methodLink RX5 107 yX5_isFloor, Cond.static yX5_isFloor, Cond.code yX5_isFloor cX5_isFloor 1 (some .boolean), Cond.methodLink RX5 26 yX5_in, Cond.static yX5_in, Cond.code yX5_in cX5_in 3 (some .boolean), Cond.methodLink RX5 58 yX5_canBeGiven, Cond.instanceMethod yX5_canBeGiven, Cond.selects RX5 yX5_canBeGiven yX5_canBeGiven, Cond.code yX5_canBeGiven cX5_canBeGiven 5 (some .boolean), Cond.methodLink RX5 38 yX5_ofCar, Cond.instanceMethod yX5_ofCar, Cond.selects RX5 yX5_ofCar yX5_ofCar, Cond.code yX5_ofCar cX5_ofCar 3 (some .int), Cond.methodLink RX5 41 yX5_isAwake]
def wsX5_cost_r2 : List Cond := [Cond.instanceMethod yX5_isAwake, Cond.selects RX5 yX5_isAwake yX5_isAwake, Cond.code yX5_isAwake cX5_isAwake 2 (some .boolean), Cond.methodLink RX5 30 yX5_hour, Cond.instanceMethod yX5_hour, Cond.selects RX5 yX5_hour yX5_hour, Cond.code yX5_hour cX5_hour 1 (some .int), Cond.methodLink RX5 61 yX5_costOf, Cond.instanceMethod yX5_costOf, Cond.selects RX5 yX5_costOf yX5_costOf, Cond.code yX5_costOf cX5_costOf 5 (some .int), Cond.methodLink RX5 45 yX5_stops, Cond.instanceMethod yX5_stops, Cond.selects RX5 yX5_stops yX5_stops, Cond.code yX5_stops cX5_stops 4 (some .int), Cond.methodLink RX5 34 yX5_ofCaller, Cond.instanceMethod yX5_ofCaller, Cond.selects RX5 yX5_ofCaller yX5_ofCaller, Cond.code yX5_ofCaller cX5_ofCaller 3 (some .int), Cond.methodLink RX5 49 yX5_ones, Cond.static yX5_ones, Cond.code yX5_ones cX5_ones 3 (some .int), Cond.methodLink RX5 52 yX5_far, Cond.static yX5_far]
def wsX5_cost_r3 : List Cond := [Cond.code yX5_far cX5_far 2 (some .int), Cond.methodLink RX5 55 yX5_many, Cond.instanceMethod yX5_many, Cond.selects RX5 yX5_many yX5_many, Cond.code yX5_many cX5_many 5 (some .int)]
def wsX5_cost : List Cond := .code yX5_cost cX5_cost 4 (some .int) :: ((wsX5_cost_r1 ++ (wsX5_cost_r2 ++ wsX5_cost_r3)) ++ wsX50)
def wsX5_would_r1 : List Cond := [Cond.methodLink RX5 110 yX5_isWay, Cond.static yX5_isWay, Cond.initialized RX5, Cond.code yX5_isWay cX5_isWay 2 (some .boolean), Cond.methodLink RX5 107 yX5_isFloor, Cond.static yX5_isFloor, Cond.code yX5_isFloor cX5_isFloor 1 (some .boolean), Cond.methodLink RX5 26 yX5_in, Cond.static yX5_in, Cond.code yX5_in cX5_in 3 (some .boolean), Cond.methodLink RX5 65 yX5_best, Cond.instanceMethod yX5_best, Cond.selects RX5 yX5_best yX5_best, Cond.code yX5_best cX5_best 8 (some .int), Cond.fieldLink RX5 7 "GoalLiftsModel" "s" "[I", Cond.methodLink RX5 58 yX5_canBeGiven, Cond.instanceMethod yX5_canBeGiven, Cond.selects RX5 yX5_canBeGiven yX5_canBeGiven, Cond.code yX5_canBeGiven cX5_canBeGiven 5 (some .boolean), Cond.methodLink RX5 38 yX5_ofCar, Cond.instanceMethod yX5_ofCar, Cond.selects RX5 yX5_ofCar yX5_ofCar, Cond.code yX5_ofCar cX5_ofCar 3 (some .int), Cond.methodLink RX5 41 yX5_isAwake]
def wsX5_would_r2 : List Cond := [Cond.instanceMethod yX5_isAwake, Cond.selects RX5 yX5_isAwake yX5_isAwake, Cond.code yX5_isAwake cX5_isAwake 2 (some .boolean), Cond.methodLink RX5 30 yX5_hour, Cond.instanceMethod yX5_hour, Cond.selects RX5 yX5_hour yX5_hour, Cond.code yX5_hour cX5_hour 1 (some .int), Cond.methodLink RX5 61 yX5_costOf, Cond.instanceMethod yX5_costOf, Cond.selects RX5 yX5_costOf yX5_costOf, Cond.code yX5_costOf cX5_costOf 5 (some .int), Cond.methodLink RX5 45 yX5_stops, Cond.instanceMethod yX5_stops, Cond.selects RX5 yX5_stops yX5_stops, Cond.code yX5_stops cX5_stops 4 (some .int), Cond.methodLink RX5 34 yX5_ofCaller, Cond.instanceMethod yX5_ofCaller, Cond.selects RX5 yX5_ofCaller yX5_ofCaller, Cond.code yX5_ofCaller cX5_ofCaller 3 (some .int), Cond.methodLink RX5 49 yX5_ones, Cond.static yX5_ones, Cond.code yX5_ones cX5_ones 3 (some .int), Cond.methodLink RX5 52 yX5_far, Cond.static yX5_far]
def wsX5_would_r3 : List Cond := [Cond.code yX5_far cX5_far 2 (some .int), Cond.methodLink RX5 55 yX5_many, Cond.instanceMethod yX5_many, Cond.selects RX5 yX5_many yX5_many, Cond.code yX5_many cX5_many 5 (some .int)]
def wsX5_would : List Cond := .code yX5_would cX5_would 3 (some .int) :: ((wsX5_would_r1 ++ (wsX5_would_r2 ++ wsX5_would_r3)) ++ wsX50)
def wsX5_thereIn_r1 : List Cond := [Cond.fieldLink RX5 7 "GoalLiftsModel" "s" "[I", Cond.fieldLink RX5 16 "GoalLiftsModel" "held" "[I", Cond.methodLink RX5 131 yX5_isCaller, Cond.instanceMethod yX5_isCaller, Cond.selects RX5 yX5_isCaller yX5_isCaller, Cond.initialized RX5, Cond.code yX5_isCaller cX5_isCaller 2 (some .boolean), Cond.methodLink RX5 134 yX5_copies, Cond.static yX5_copies, Cond.code yX5_copies cX5_copies 3 none, Cond.methodLink RX5 34 yX5_ofCaller, Cond.instanceMethod yX5_ofCaller, Cond.selects RX5 yX5_ofCaller yX5_ofCaller, Cond.code yX5_ofCaller cX5_ofCaller 3 (some .int), Cond.methodLink RX5 113 yX5_ticks, Cond.instanceMethod yX5_ticks, Cond.selects RX5 yX5_ticks yX5_ticks, Cond.code yX5_ticks cX5_ticks 3 none, Cond.methodLink RX5 79 yX5_gives, Cond.instanceMethod yX5_gives, Cond.selects RX5 yX5_gives yX5_gives, Cond.code yX5_gives cX5_gives 3 none, Cond.methodLink RX5 65 yX5_best, Cond.instanceMethod yX5_best]
def wsX5_thereIn_r2 : List Cond := [Cond.selects RX5 yX5_best yX5_best, Cond.code yX5_best cX5_best 8 (some .int), Cond.methodLink RX5 58 yX5_canBeGiven, Cond.instanceMethod yX5_canBeGiven, Cond.selects RX5 yX5_canBeGiven yX5_canBeGiven, Cond.code yX5_canBeGiven cX5_canBeGiven 5 (some .boolean), Cond.methodLink RX5 38 yX5_ofCar, Cond.instanceMethod yX5_ofCar, Cond.selects RX5 yX5_ofCar yX5_ofCar, Cond.code yX5_ofCar cX5_ofCar 3 (some .int), Cond.methodLink RX5 41 yX5_isAwake, Cond.instanceMethod yX5_isAwake, Cond.selects RX5 yX5_isAwake yX5_isAwake, Cond.code yX5_isAwake cX5_isAwake 2 (some .boolean), Cond.methodLink RX5 30 yX5_hour, Cond.instanceMethod yX5_hour, Cond.selects RX5 yX5_hour yX5_hour, Cond.code yX5_hour cX5_hour 1 (some .int), Cond.methodLink RX5 26 yX5_in, Cond.static yX5_in, Cond.code yX5_in cX5_in 3 (some .boolean), Cond.methodLink RX5 61 yX5_costOf, Cond.instanceMethod yX5_costOf, Cond.selects RX5 yX5_costOf yX5_costOf]
def wsX5_thereIn_r3 : List Cond := [Cond.code yX5_costOf cX5_costOf 5 (some .int), Cond.methodLink RX5 45 yX5_stops, Cond.instanceMethod yX5_stops, Cond.selects RX5 yX5_stops yX5_stops, Cond.code yX5_stops cX5_stops 4 (some .int), Cond.methodLink RX5 49 yX5_ones, Cond.static yX5_ones, Cond.code yX5_ones cX5_ones 3 (some .int), Cond.methodLink RX5 52 yX5_far, Cond.static yX5_far, Cond.code yX5_far cX5_far 2 (some .int), Cond.methodLink RX5 55 yX5_many, Cond.instanceMethod yX5_many, Cond.selects RX5 yX5_many yX5_many, Cond.code yX5_many cX5_many 5 (some .int), Cond.methodLink RX5 68 yX5_puts, Cond.instanceMethod yX5_puts, Cond.selects RX5 yX5_puts yX5_puts, Cond.code yX5_puts cX5_puts 4 none, Cond.methodLink RX5 83 yX5_aim, Cond.instanceMethod yX5_aim, Cond.selects RX5 yX5_aim yX5_aim, Cond.code yX5_aim cX5_aim 8 (some .int), Cond.methodLink RX5 86 yX5_isStop]
def wsX5_thereIn_r4 : List Cond := [Cond.instanceMethod yX5_isStop, Cond.selects RX5 yX5_isStop yX5_isStop, Cond.code yX5_isStop cX5_isStop 5 (some .boolean), Cond.methodLink RX5 72 yX5_isOut, Cond.instanceMethod yX5_isOut, Cond.selects RX5 yX5_isOut yX5_isOut, Cond.code yX5_isOut cX5_isOut 3 (some .boolean), Cond.methodLink RX5 76 yX5_isTaken, Cond.instanceMethod yX5_isTaken, Cond.selects RX5 yX5_isTaken yX5_isTaken, Cond.code yX5_isTaken cX5_isTaken 3 (some .boolean), Cond.methodLink RX5 89 yX5_stopsNow, Cond.instanceMethod yX5_stopsNow, Cond.selects RX5 yX5_stopsNow yX5_stopsNow, Cond.code yX5_stopsNow cX5_stopsNow 3 none, Cond.methodLink RX5 92 yX5_putsCar, Cond.instanceMethod yX5_putsCar, Cond.selects RX5 yX5_putsCar yX5_putsCar, Cond.code yX5_putsCar cX5_putsCar 4 none]
def wsX5_thereIn : List Cond := .code yX5_thereIn cX5_thereIn 3 (some .int) :: ((wsX5_thereIn_r1 ++ (wsX5_thereIn_r2 ++ (wsX5_thereIn_r3 ++ wsX5_thereIn_r4))) ++ wsX50)
def wsX5_waited : List Cond := .code yX5_waited cX5_waited 2 (some .int) :: ([.fieldLink RX5 7 "GoalLiftsModel" "s" "[I", .methodLink RX5 34 yX5_ofCaller, .instanceMethod yX5_ofCaller, .selects RX5 yX5_ofCaller yX5_ofCaller, .initialized RX5, .code yX5_ofCaller cX5_ofCaller 3 (some .int)] ++ wsX50)
def wsX5_waits : List Cond := .code yX5_waits cX5_waits 7 (some .int) :: ([.fieldLink RX5 7 "GoalLiftsModel" "s" "[I", .methodLink RX5 26 yX5_in, .static yX5_in, .initialized RX5, .code yX5_in cX5_in 3 (some .boolean), .methodLink RX5 138 yX5_waited, .instanceMethod yX5_waited, .selects RX5 yX5_waited yX5_waited, .code yX5_waited cX5_waited 2 (some .int), .methodLink RX5 34 yX5_ofCaller, .instanceMethod yX5_ofCaller, .selects RX5 yX5_ofCaller yX5_ofCaller, .code yX5_ofCaller cX5_ofCaller 3 (some .int)] ++ wsX50)
def wsX5_allThere_r1 : List Cond := [Cond.fieldLink RX5 7 "GoalLiftsModel" "s" "[I", Cond.methodLink RX5 104 yX5_inAll, Cond.instanceMethod yX5_inAll, Cond.selects RX5 yX5_inAll yX5_inAll, Cond.initialized RX5, Cond.code yX5_inAll cX5_inAll 4 (some .int), Cond.methodLink RX5 34 yX5_ofCaller, Cond.instanceMethod yX5_ofCaller, Cond.selects RX5 yX5_ofCaller yX5_ofCaller, Cond.code yX5_ofCaller cX5_ofCaller 3 (some .int), Cond.methodLink RX5 113 yX5_ticks, Cond.instanceMethod yX5_ticks, Cond.selects RX5 yX5_ticks yX5_ticks, Cond.code yX5_ticks cX5_ticks 3 none, Cond.methodLink RX5 79 yX5_gives, Cond.instanceMethod yX5_gives, Cond.selects RX5 yX5_gives yX5_gives, Cond.code yX5_gives cX5_gives 3 none, Cond.methodLink RX5 65 yX5_best, Cond.instanceMethod yX5_best, Cond.selects RX5 yX5_best yX5_best, Cond.code yX5_best cX5_best 8 (some .int), Cond.methodLink RX5 58 yX5_canBeGiven, Cond.instanceMethod yX5_canBeGiven]
def wsX5_allThere_r2 : List Cond := [Cond.selects RX5 yX5_canBeGiven yX5_canBeGiven, Cond.code yX5_canBeGiven cX5_canBeGiven 5 (some .boolean), Cond.methodLink RX5 38 yX5_ofCar, Cond.instanceMethod yX5_ofCar, Cond.selects RX5 yX5_ofCar yX5_ofCar, Cond.code yX5_ofCar cX5_ofCar 3 (some .int), Cond.methodLink RX5 41 yX5_isAwake, Cond.instanceMethod yX5_isAwake, Cond.selects RX5 yX5_isAwake yX5_isAwake, Cond.code yX5_isAwake cX5_isAwake 2 (some .boolean), Cond.methodLink RX5 30 yX5_hour, Cond.instanceMethod yX5_hour, Cond.selects RX5 yX5_hour yX5_hour, Cond.code yX5_hour cX5_hour 1 (some .int), Cond.methodLink RX5 26 yX5_in, Cond.static yX5_in, Cond.code yX5_in cX5_in 3 (some .boolean), Cond.methodLink RX5 61 yX5_costOf, Cond.instanceMethod yX5_costOf, Cond.selects RX5 yX5_costOf yX5_costOf, Cond.code yX5_costOf cX5_costOf 5 (some .int), Cond.methodLink RX5 45 yX5_stops, Cond.instanceMethod yX5_stops, Cond.selects RX5 yX5_stops yX5_stops]
def wsX5_allThere_r3 : List Cond := [Cond.code yX5_stops cX5_stops 4 (some .int), Cond.methodLink RX5 49 yX5_ones, Cond.static yX5_ones, Cond.code yX5_ones cX5_ones 3 (some .int), Cond.methodLink RX5 52 yX5_far, Cond.static yX5_far, Cond.code yX5_far cX5_far 2 (some .int), Cond.methodLink RX5 55 yX5_many, Cond.instanceMethod yX5_many, Cond.selects RX5 yX5_many yX5_many, Cond.code yX5_many cX5_many 5 (some .int), Cond.methodLink RX5 68 yX5_puts, Cond.instanceMethod yX5_puts, Cond.selects RX5 yX5_puts yX5_puts, Cond.code yX5_puts cX5_puts 4 none, Cond.methodLink RX5 83 yX5_aim, Cond.instanceMethod yX5_aim, Cond.selects RX5 yX5_aim yX5_aim, Cond.code yX5_aim cX5_aim 8 (some .int), Cond.methodLink RX5 86 yX5_isStop, Cond.instanceMethod yX5_isStop, Cond.selects RX5 yX5_isStop yX5_isStop, Cond.code yX5_isStop cX5_isStop 5 (some .boolean), Cond.methodLink RX5 72 yX5_isOut]
def wsX5_allThere_r4 : List Cond := [Cond.instanceMethod yX5_isOut, Cond.selects RX5 yX5_isOut yX5_isOut, Cond.code yX5_isOut cX5_isOut 3 (some .boolean), Cond.methodLink RX5 76 yX5_isTaken, Cond.instanceMethod yX5_isTaken, Cond.selects RX5 yX5_isTaken yX5_isTaken, Cond.code yX5_isTaken cX5_isTaken 3 (some .boolean), Cond.methodLink RX5 89 yX5_stopsNow, Cond.instanceMethod yX5_stopsNow, Cond.selects RX5 yX5_stopsNow yX5_stopsNow, Cond.code yX5_stopsNow cX5_stopsNow 3 none, Cond.methodLink RX5 92 yX5_putsCar, Cond.instanceMethod yX5_putsCar, Cond.selects RX5 yX5_putsCar yX5_putsCar, Cond.code yX5_putsCar cX5_putsCar 4 none]
def wsX5_allThere : List Cond := .code yX5_allThere cX5_allThere 2 (some .int) :: ((wsX5_allThere_r1 ++ (wsX5_allThere_r2 ++ (wsX5_allThere_r3 ++ wsX5_allThere_r4))) ++ wsX50)
def wsX5_worstCar_r1 : List Cond := [Cond.fieldLink RX5 7 "GoalLiftsModel" "s" "[I", Cond.fieldLink RX5 19 "GoalLiftsModel" "tried" "[I", Cond.methodLink RX5 26 yX5_in, Cond.static yX5_in, Cond.initialized RX5, Cond.code yX5_in cX5_in 3 (some .boolean), Cond.methodLink RX5 38 yX5_ofCar, Cond.instanceMethod yX5_ofCar, Cond.selects RX5 yX5_ofCar yX5_ofCar, Cond.code yX5_ofCar cX5_ofCar 3 (some .int), Cond.methodLink RX5 134 yX5_copies, Cond.static yX5_copies, Cond.code yX5_copies cX5_copies 3 none, Cond.methodLink RX5 101 yX5_fails, Cond.instanceMethod yX5_fails, Cond.selects RX5 yX5_fails yX5_fails, Cond.code yX5_fails cX5_fails 4 none, Cond.methodLink RX5 34 yX5_ofCaller, Cond.instanceMethod yX5_ofCaller, Cond.selects RX5 yX5_ofCaller yX5_ofCaller, Cond.code yX5_ofCaller cX5_ofCaller 3 (some .int), Cond.methodLink RX5 72 yX5_isOut, Cond.instanceMethod yX5_isOut, Cond.selects RX5 yX5_isOut yX5_isOut]
def wsX5_worstCar_r2 : List Cond := [Cond.code yX5_isOut cX5_isOut 3 (some .boolean), Cond.methodLink RX5 68 yX5_puts, Cond.instanceMethod yX5_puts, Cond.selects RX5 yX5_puts yX5_puts, Cond.code yX5_puts cX5_puts 4 none, Cond.methodLink RX5 92 yX5_putsCar, Cond.instanceMethod yX5_putsCar, Cond.selects RX5 yX5_putsCar yX5_putsCar, Cond.code yX5_putsCar cX5_putsCar 4 none, Cond.methodLink RX5 141 yX5_allThere, Cond.instanceMethod yX5_allThere, Cond.selects RX5 yX5_allThere yX5_allThere, Cond.code yX5_allThere cX5_allThere 2 (some .int), Cond.methodLink RX5 104 yX5_inAll, Cond.instanceMethod yX5_inAll, Cond.selects RX5 yX5_inAll yX5_inAll, Cond.code yX5_inAll cX5_inAll 4 (some .int), Cond.methodLink RX5 113 yX5_ticks, Cond.instanceMethod yX5_ticks, Cond.selects RX5 yX5_ticks yX5_ticks, Cond.code yX5_ticks cX5_ticks 3 none, Cond.methodLink RX5 79 yX5_gives, Cond.instanceMethod yX5_gives, Cond.selects RX5 yX5_gives yX5_gives]
def wsX5_worstCar_r3 : List Cond := [Cond.code yX5_gives cX5_gives 3 none, Cond.methodLink RX5 65 yX5_best, Cond.instanceMethod yX5_best, Cond.selects RX5 yX5_best yX5_best, Cond.code yX5_best cX5_best 8 (some .int), Cond.methodLink RX5 58 yX5_canBeGiven, Cond.instanceMethod yX5_canBeGiven, Cond.selects RX5 yX5_canBeGiven yX5_canBeGiven, Cond.code yX5_canBeGiven cX5_canBeGiven 5 (some .boolean), Cond.methodLink RX5 41 yX5_isAwake, Cond.instanceMethod yX5_isAwake, Cond.selects RX5 yX5_isAwake yX5_isAwake, Cond.code yX5_isAwake cX5_isAwake 2 (some .boolean), Cond.methodLink RX5 30 yX5_hour, Cond.instanceMethod yX5_hour, Cond.selects RX5 yX5_hour yX5_hour, Cond.code yX5_hour cX5_hour 1 (some .int), Cond.methodLink RX5 61 yX5_costOf, Cond.instanceMethod yX5_costOf, Cond.selects RX5 yX5_costOf yX5_costOf, Cond.code yX5_costOf cX5_costOf 5 (some .int), Cond.methodLink RX5 45 yX5_stops, Cond.instanceMethod yX5_stops, Cond.selects RX5 yX5_stops yX5_stops]
def wsX5_worstCar_r4 : List Cond := [Cond.code yX5_stops cX5_stops 4 (some .int), Cond.methodLink RX5 49 yX5_ones, Cond.static yX5_ones, Cond.code yX5_ones cX5_ones 3 (some .int), Cond.methodLink RX5 52 yX5_far, Cond.static yX5_far, Cond.code yX5_far cX5_far 2 (some .int), Cond.methodLink RX5 55 yX5_many, Cond.instanceMethod yX5_many, Cond.selects RX5 yX5_many yX5_many, Cond.code yX5_many cX5_many 5 (some .int), Cond.methodLink RX5 83 yX5_aim, Cond.instanceMethod yX5_aim, Cond.selects RX5 yX5_aim yX5_aim, Cond.code yX5_aim cX5_aim 8 (some .int), Cond.methodLink RX5 86 yX5_isStop, Cond.instanceMethod yX5_isStop, Cond.selects RX5 yX5_isStop yX5_isStop, Cond.code yX5_isStop cX5_isStop 5 (some .boolean), Cond.methodLink RX5 76 yX5_isTaken, Cond.instanceMethod yX5_isTaken, Cond.selects RX5 yX5_isTaken yX5_isTaken, Cond.code yX5_isTaken cX5_isTaken 3 (some .boolean), Cond.methodLink RX5 89 yX5_stopsNow]
def wsX5_worstCar_r5 : List Cond := [Cond.instanceMethod yX5_stopsNow, Cond.selects RX5 yX5_stopsNow yX5_stopsNow, Cond.code yX5_stopsNow cX5_stopsNow 3 none]
def wsX5_worstCar : List Cond := .code yX5_worstCar cX5_worstCar 6 (some .int) :: ((wsX5_worstCar_r1 ++ (wsX5_worstCar_r2 ++ (wsX5_worstCar_r3 ++ (wsX5_worstCar_r4 ++ wsX5_worstCar_r5)))) ++ wsX50)
def wsJ9_abs_0f7a4 : List Cond := .code yJ9_abs_0f7a4 cJ9_abs_0f7a4 1 (some .int) :: ([])
def wsJ9_min_7cf53 : List Cond := .code yJ9_min_7cf53 cJ9_min_7cf53 2 (some .int) :: ([])
def wsL_law_r1 : List Cond := [Cond.classLink RL 7 RX4, Cond.instantiable RX4 3, Cond.initialized RX4, Cond.classLink RL 10 RX5, Cond.instantiable RX5 5, Cond.initialized RX5, Cond.methodLink RL 9 yX4_init, Cond.instanceMethod yX4_init, Cond.code yX4_init cX4_init 1 none, Cond.methodLink RX4 1 objectInit, Cond.instanceMethod objectInit, Cond.code objectInit ⟨#[0xb1]⟩ 1 none, Cond.classLink RX4 7 RX3, Cond.instantiable RX3 4, Cond.initialized RX3, Cond.fieldLink RX4 10 "GoalLifts" "house" "LGoalLifts$House;", Cond.fieldLink RX4 16 "GoalLifts" "forecast" "LGoalLifts$House;", Cond.classLink RX4 19 RX2, Cond.instantiable RX2 3, Cond.initialized RX2, Cond.fieldLink RX4 22 "GoalLifts" "history" "LGoalLifts$History;", Cond.methodLink RX4 9 yX3_init, Cond.instanceMethod yX3_init, Cond.code yX3_init cX3_init 2 none]
def wsL_law_r2 : List Cond := [Cond.methodLink RX3 3 objectInit, Cond.arrayClass .int, Cond.fieldLink RX3 9 "GoalLifts$House" "awake" "[I", Cond.classLink RX3 15 RX1, Cond.instantiable RX1 8, Cond.initialized RX1, Cond.fieldLink RX3 18 "GoalLifts$House" "cars" "LGoalLifts$Cars;", Cond.classLink RX3 22 RX0, Cond.instantiable RX0 9, Cond.initialized RX0, Cond.fieldLink RX3 25 "GoalLifts$House" "callers" "LGoalLifts$Callers;", Cond.instanceMethod yX1_init, Cond.code yX1_init cX1_init 1 none, Cond.methodLink RX1 3 objectInit, Cond.fieldLink RX1 9 "GoalLifts$Cars" "lowest" "[I", Cond.fieldLink RX1 15 "GoalLifts$Cars" "highest" "[I", Cond.fieldLink RX1 18 "GoalLifts$Cars" "places" "[I", Cond.fieldLink RX1 21 "GoalLifts$Cars" "floor" "[I", Cond.fieldLink RX1 24 "GoalLifts$Cars" "state" "[I", Cond.fieldLink RX1 27 "GoalLifts$Cars" "travelled" "[I", Cond.instanceMethod yX0_init, Cond.code yX0_init cX0_init 1 none, Cond.methodLink RX0 3 objectInit, Cond.fieldLink RX0 9 "GoalLifts$Callers" "floor" "[I"]
def wsL_law_r3 : List Cond := [Cond.fieldLink RX0 15 "GoalLifts$Callers" "goal" "[I", Cond.fieldLink RX0 18 "GoalLifts$Callers" "phase" "[I", Cond.fieldLink RX0 21 "GoalLifts$Callers" "given" "[I", Cond.fieldLink RX0 24 "GoalLifts$Callers" "calledAt" "[I", Cond.fieldLink RX0 27 "GoalLifts$Callers" "rodeAt" "[I", Cond.fieldLink RX0 30 "GoalLifts$Callers" "thereAt" "[I", Cond.fieldLink RX0 33 "GoalLifts$Callers" "timesGiven" "[I", Cond.methodLink RX4 21 yX2_init, Cond.instanceMethod yX2_init, Cond.code yX2_init cX2_init 2 none, Cond.methodLink RX2 3 objectInit, Cond.classLink RX2 9 RX3, Cond.fieldLink RX2 11 "GoalLifts$History" "states" "[LGoalLifts$House;", Cond.methodLink RX2 17 yX3_init, Cond.methodLink RL 12 yX5_init, Cond.instanceMethod yX5_init, Cond.code yX5_init cX5_init 2 none, Cond.methodLink RX5 1 objectInit, Cond.fieldLink RX5 7 "GoalLiftsModel" "s" "[I", Cond.fieldLink RX5 13 "GoalLiftsModel" "past" "[I", Cond.fieldLink RX5 16 "GoalLiftsModel" "held" "[I", Cond.fieldLink RX5 19 "GoalLiftsModel" "tried" "[I", Cond.methodLink RL 13 yX4_addCar, Cond.instanceMethod yX4_addCar]
def wsL_law_r4 : List Cond := [Cond.selects RX4 yX4_addCar yX4_addCar, Cond.code yX4_addCar cX4_addCar 4 (some .int), Cond.fieldLink RX4 30 "GoalLifts$House" "cars" "LGoalLifts$Cars;", Cond.fieldLink RX4 34 "GoalLifts$Cars" "count" "I", Cond.methodLink RX4 26 yX4_isFloor, Cond.static yX4_isFloor, Cond.code yX4_isFloor cX4_isFloor 1 (some .boolean), Cond.methodLink RX4 40 yX2_keep, Cond.instanceMethod yX2_keep, Cond.selects RX2 yX2_keep yX2_keep, Cond.code yX2_keep cX2_keep 3 none, Cond.fieldLink RX2 18 "GoalLifts$History" "next" "I", Cond.fieldLink RX2 32 "GoalLifts$History" "count" "I", Cond.methodLink RX2 35 Lib.Math.min.name, Cond.static Lib.Math.min.name, Cond.initialized "java/lang/Math", Cond.code Lib.Math.min.name Lib.Math.min.code 2 (some .int), Cond.methodLink RX2 22 yX3_copyFrom, Cond.instanceMethod yX3_copyFrom, Cond.selects RX3 yX3_copyFrom yX3_copyFrom, Cond.code yX3_copyFrom cX3_copyFrom 2 none, Cond.fieldLink RX3 29 "GoalLifts$House" "tick" "I", Cond.methodLink RX3 33 arraycopyName, Cond.native arraycopyName]
def wsL_law_r5 : List Cond := [Cond.static arraycopyName, Cond.initialized "java/lang/System", Cond.methodLink RX3 39 yX1_copyFrom, Cond.instanceMethod yX1_copyFrom, Cond.selects RX1 yX1_copyFrom yX1_copyFrom, Cond.code yX1_copyFrom cX1_copyFrom 2 none, Cond.fieldLink RX1 30 "GoalLifts$Cars" "count" "I", Cond.fieldLink RX1 34 "GoalLifts$Cars" "stopsMade" "I", Cond.methodLink RX1 37 arraycopyName, Cond.methodLink RX3 43 yX0_copyFrom, Cond.instanceMethod yX0_copyFrom, Cond.selects RX0 yX0_copyFrom yX0_copyFrom, Cond.code yX0_copyFrom cX0_copyFrom 2 none, Cond.fieldLink RX0 36 "GoalLifts$Callers" "count" "I", Cond.methodLink RX0 40 arraycopyName, Cond.methodLink RX2 26 yJ9_floorMod_7cf53, Cond.static yJ9_floorMod_7cf53, Cond.initialized RJ9, Cond.code yJ9_floorMod_7cf53 cJ9_floorMod_7cf53 3 (some .int), Cond.methodLink RX4 44 yX1_add, Cond.instanceMethod yX1_add, Cond.selects RX1 yX1_add yX1_add, Cond.code yX1_add cX1_add 5 (some .int), Cond.methodLink RL 17 yX5_addCar]
def wsL_law_r6 : List Cond := [Cond.instanceMethod yX5_addCar, Cond.selects RX5 yX5_addCar yX5_addCar, Cond.code yX5_addCar cX5_addCar 5 (some .int), Cond.methodLink RX5 26 yX5_in, Cond.static yX5_in, Cond.code yX5_in cX5_in 3 (some .boolean), Cond.methodLink RX5 95 yX5_acts, Cond.instanceMethod yX5_acts, Cond.selects RX5 yX5_acts yX5_acts, Cond.code yX5_acts cX5_acts 2 none, Cond.fieldLink RX5 22 "GoalLiftsModel" "pasts" "I", Cond.methodLink RX5 92 yX5_putsCar, Cond.instanceMethod yX5_putsCar, Cond.selects RX5 yX5_putsCar yX5_putsCar, Cond.code yX5_putsCar cX5_putsCar 4 none, Cond.methodLink RL 18 yX4_setAwake, Cond.instanceMethod yX4_setAwake, Cond.selects RX4 yX4_setAwake yX4_setAwake, Cond.code yX4_setAwake cX4_setAwake 4 (some .int), Cond.fieldLink RX4 48 "GoalLifts$House" "awake" "[I", Cond.methodLink RL 22 yX5_setAwake, Cond.instanceMethod yX5_setAwake, Cond.selects RX5 yX5_setAwake yX5_setAwake, Cond.code yX5_setAwake cX5_setAwake 4 (some .int)]
def wsL_law_r7 : List Cond := [Cond.methodLink RL 23 yX4_hold, Cond.instanceMethod yX4_hold, Cond.selects RX4 yX4_hold yX4_hold, Cond.code yX4_hold cX4_hold 5 (some .int), Cond.fieldLink RX4 55 "GoalLifts$Cars" "state" "[I", Cond.fieldLink RX4 58 "GoalLifts$House" "callers" "LGoalLifts$Callers;", Cond.methodLink RX4 52 yX1_has, Cond.instanceMethod yX1_has, Cond.selects RX1 yX1_has yX1_has, Cond.code yX1_has cX1_has 2 (some .boolean), Cond.methodLink RX4 62 yX0_numberWith, Cond.instanceMethod yX0_numberWith, Cond.selects RX0 yX0_numberWith yX0_numberWith, Cond.code yX0_numberWith cX0_numberWith 2 (some .int), Cond.methodLink RX0 50 yX0_numberOf, Cond.instanceMethod yX0_numberOf, Cond.selects RX0 yX0_numberOf yX0_numberOf, Cond.code yX0_numberOf cX0_numberOf 5 (some .int), Cond.methodLink RL 26 yX5_hold, Cond.instanceMethod yX5_hold, Cond.selects RX5 yX5_hold yX5_hold, Cond.code yX5_hold cX5_hold 3 (some .int), Cond.methodLink RX5 98 yX5_isCar, Cond.instanceMethod yX5_isCar]
def wsL_law_r8 : List Cond := [Cond.selects RX5 yX5_isCar yX5_isCar, Cond.code yX5_isCar cX5_isCar 2 (some .boolean), Cond.methodLink RX5 38 yX5_ofCar, Cond.instanceMethod yX5_ofCar, Cond.selects RX5 yX5_ofCar yX5_ofCar, Cond.code yX5_ofCar cX5_ofCar 3 (some .int), Cond.methodLink RX5 55 yX5_many, Cond.instanceMethod yX5_many, Cond.selects RX5 yX5_many yX5_many, Cond.code yX5_many cX5_many 5 (some .int), Cond.methodLink RX5 34 yX5_ofCaller, Cond.instanceMethod yX5_ofCaller, Cond.selects RX5 yX5_ofCaller yX5_ofCaller, Cond.code yX5_ofCaller cX5_ofCaller 3 (some .int), Cond.methodLink RL 27 yX4_fail, Cond.instanceMethod yX4_fail, Cond.selects RX4 yX4_fail yX4_fail, Cond.code yX4_fail cX4_fail 2 (some .int), Cond.methodLink RX4 68 yX3_breakCar, Cond.instanceMethod yX3_breakCar, Cond.selects RX3 yX3_breakCar yX3_breakCar, Cond.code yX3_breakCar cX3_breakCar 2 none, Cond.fieldLink RX3 56 "GoalLifts$Cars" "state" "[I", Cond.fieldLink RX3 67 "GoalLifts$Cars" "floor" "[I"]
def wsL_law_r9 : List Cond := [Cond.methodLink RX3 134 yX0_loseCar, Cond.instanceMethod yX0_loseCar, Cond.selects RX0 yX0_loseCar yX0_loseCar, Cond.code yX0_loseCar cX0_loseCar 6 none, Cond.methodLink RX0 58 yX0_rides, Cond.instanceMethod yX0_rides, Cond.selects RX0 yX0_rides yX0_rides, Cond.code yX0_rides cX0_rides 3 (some .boolean), Cond.methodLink RX0 54 yX0_waitsFor, Cond.instanceMethod yX0_waitsFor, Cond.selects RX0 yX0_waitsFor yX0_waitsFor, Cond.code yX0_waitsFor cX0_waitsFor 3 (some .boolean), Cond.methodLink RX4 72 yX0_numberIn, Cond.instanceMethod yX0_numberIn, Cond.selects RX0 yX0_numberIn yX0_numberIn, Cond.code yX0_numberIn cX0_numberIn 4 (some .int), Cond.methodLink RL 31 yX5_fail, Cond.instanceMethod yX5_fail, Cond.selects RX5 yX5_fail yX5_fail, Cond.code yX5_fail cX5_fail 2 (some .int), Cond.methodLink RX5 101 yX5_fails, Cond.instanceMethod yX5_fails, Cond.selects RX5 yX5_fails yX5_fails, Cond.code yX5_fails cX5_fails 4 none]
def wsL_law_r10 : List Cond := [Cond.methodLink RX5 72 yX5_isOut, Cond.instanceMethod yX5_isOut, Cond.selects RX5 yX5_isOut yX5_isOut, Cond.code yX5_isOut cX5_isOut 3 (some .boolean), Cond.methodLink RX5 68 yX5_puts, Cond.instanceMethod yX5_puts, Cond.selects RX5 yX5_puts yX5_puts, Cond.code yX5_puts cX5_puts 4 none, Cond.methodLink RX5 104 yX5_inAll, Cond.instanceMethod yX5_inAll, Cond.selects RX5 yX5_inAll yX5_inAll, Cond.code yX5_inAll cX5_inAll 4 (some .int), Cond.methodLink RL 32 yX4_repair, Cond.instanceMethod yX4_repair, Cond.selects RX4 yX4_repair yX4_repair, Cond.code yX4_repair cX4_repair 2 (some .int), Cond.fieldLink RX4 75 "GoalLifts$Cars" "floor" "[I", Cond.methodLink RL 35 yX5_repair, Cond.instanceMethod yX5_repair, Cond.selects RX5 yX5_repair yX5_repair, Cond.code yX5_repair cX5_repair 2 (some .int), Cond.methodLink RL 36 yX4_call, Cond.instanceMethod yX4_call, Cond.selects RX4 yX4_call yX4_call]
def wsL_law_r11 : List Cond := [Cond.code yX4_call cX4_call 5 (some .int), Cond.fieldLink RX4 82 "GoalLifts$Callers" "count" "I", Cond.fieldLink RX4 87 "GoalLifts$House" "tick" "I", Cond.methodLink RX4 78 yX4_isWay, Cond.static yX4_isWay, Cond.code yX4_isWay cX4_isWay 2 (some .boolean), Cond.methodLink RX4 83 yX3_bestCar, Cond.instanceMethod yX3_bestCar, Cond.selects RX3 yX3_bestCar yX3_bestCar, Cond.code yX3_bestCar cX3_bestCar 7 (some .int), Cond.fieldLink RX3 85 "GoalLifts$Cars" "count" "I", Cond.methodLink RX3 88 yX3_canBeGiven, Cond.instanceMethod yX3_canBeGiven, Cond.selects RX3 yX3_canBeGiven yX3_canBeGiven, Cond.code yX3_canBeGiven cX3_canBeGiven 4 (some .boolean), Cond.methodLink RX3 59 yX3_isAwake, Cond.instanceMethod yX3_isAwake, Cond.selects RX3 yX3_isAwake yX3_isAwake, Cond.code yX3_isAwake cX3_isAwake 2 (some .boolean), Cond.methodLink RX3 52 yX3_hour, Cond.instanceMethod yX3_hour, Cond.selects RX3 yX3_hour yX3_hour, Cond.code yX3_hour cX3_hour 1 (some .int), Cond.methodLink RX3 46 yJ9_floorMod_7cf53]
def wsL_law_r12 : List Cond := [Cond.methodLink RX3 63 yX1_serves, Cond.instanceMethod yX1_serves, Cond.selects RX1 yX1_serves yX1_serves, Cond.code yX1_serves cX1_serves 3 (some .boolean), Cond.methodLink RX3 92 yX3_costOf, Cond.instanceMethod yX3_costOf, Cond.selects RX3 yX3_costOf yX3_costOf, Cond.code yX3_costOf cX3_costOf 6 (some .int), Cond.methodLink RX3 70 Lib.Math.abs.name, Cond.static Lib.Math.abs.name, Cond.code Lib.Math.abs.name Lib.Math.abs.code 1 (some .int), Cond.methodLink RX3 74 yX0_stopsOf, Cond.instanceMethod yX0_stopsOf, Cond.selects RX0 yX0_stopsOf yX0_stopsOf, Cond.code yX0_stopsOf cX0_stopsOf 4 (some .int), Cond.methodLink RX3 77 yJ6_bitCount_0f7a4, Cond.static yJ6_bitCount_0f7a4, Cond.initialized RJ6, Cond.code yJ6_bitCount_0f7a4 cJ6_bitCount_0f7a4 1 (some .int), Cond.constant RJ6 265 (1431655765), Cond.constant RJ6 266 (858993459), Cond.constant RJ6 267 (252645135), Cond.methodLink RX3 82 yX0_numberWith, Cond.methodLink RX4 90 yX0_add]
def wsL_law_r13 : List Cond := [Cond.instanceMethod yX0_add, Cond.selects RX0 yX0_add yX0_add, Cond.code yX0_add cX0_add 5 (some .int), Cond.methodLink RX4 91 yX0_give, Cond.instanceMethod yX0_give, Cond.selects RX0 yX0_give yX0_give, Cond.code yX0_give cX0_give 3 none, Cond.methodLink RX0 46 yX0_has, Cond.instanceMethod yX0_has, Cond.selects RX0 yX0_has yX0_has, Cond.code yX0_has cX0_has 2 (some .boolean), Cond.methodLink RL 39 yX5_call, Cond.instanceMethod yX5_call, Cond.selects RX5 yX5_call yX5_call, Cond.code yX5_call cX5_call 4 (some .int), Cond.methodLink RX5 110 yX5_isWay, Cond.static yX5_isWay, Cond.code yX5_isWay cX5_isWay 2 (some .boolean), Cond.methodLink RX5 107 yX5_isFloor, Cond.static yX5_isFloor, Cond.code yX5_isFloor cX5_isFloor 1 (some .boolean), Cond.methodLink RX5 79 yX5_gives, Cond.instanceMethod yX5_gives, Cond.selects RX5 yX5_gives yX5_gives]
def wsL_law_r14 : List Cond := [Cond.code yX5_gives cX5_gives 3 none, Cond.methodLink RX5 65 yX5_best, Cond.instanceMethod yX5_best, Cond.selects RX5 yX5_best yX5_best, Cond.code yX5_best cX5_best 8 (some .int), Cond.methodLink RX5 58 yX5_canBeGiven, Cond.instanceMethod yX5_canBeGiven, Cond.selects RX5 yX5_canBeGiven yX5_canBeGiven, Cond.code yX5_canBeGiven cX5_canBeGiven 5 (some .boolean), Cond.methodLink RX5 41 yX5_isAwake, Cond.instanceMethod yX5_isAwake, Cond.selects RX5 yX5_isAwake yX5_isAwake, Cond.code yX5_isAwake cX5_isAwake 2 (some .boolean), Cond.methodLink RX5 30 yX5_hour, Cond.instanceMethod yX5_hour, Cond.selects RX5 yX5_hour yX5_hour, Cond.code yX5_hour cX5_hour 1 (some .int), Cond.methodLink RX5 61 yX5_costOf, Cond.instanceMethod yX5_costOf, Cond.selects RX5 yX5_costOf yX5_costOf, Cond.code yX5_costOf cX5_costOf 5 (some .int), Cond.methodLink RX5 45 yX5_stops, Cond.instanceMethod yX5_stops, Cond.selects RX5 yX5_stops yX5_stops]
def wsL_law_r15 : List Cond := [Cond.code yX5_stops cX5_stops 4 (some .int), Cond.methodLink RX5 49 yX5_ones, Cond.static yX5_ones, Cond.code yX5_ones cX5_ones 3 (some .int), Cond.methodLink RX5 52 yX5_far, Cond.static yX5_far, Cond.code yX5_far cX5_far 2 (some .int), Cond.methodLink RL 40 yX4_pass, Cond.instanceMethod yX4_pass, Cond.selects RX4 yX4_pass yX4_pass, Cond.code yX4_pass cX4_pass 3 (some .int), Cond.methodLink RX4 95 yX3_oneTick, Cond.instanceMethod yX3_oneTick, Cond.selects RX3 yX3_oneTick yX3_oneTick, Cond.code yX3_oneTick cX3_oneTick 2 none, Cond.fieldLink RX3 96 "GoalLifts$Callers" "count" "I", Cond.fieldLink RX3 97 "GoalLifts$Callers" "phase" "[I", Cond.fieldLink RX3 100 "GoalLifts$Callers" "floor" "[I", Cond.fieldLink RX3 101 "GoalLifts$Callers" "goal" "[I", Cond.methodLink RX3 104 yX3_bestCar, Cond.methodLink RX3 107 yX0_give, Cond.methodLink RX3 111 yX3_stopOrTravel, Cond.instanceMethod yX3_stopOrTravel, Cond.selects RX3 yX3_stopOrTravel yX3_stopOrTravel]
def wsL_law_r16 : List Cond := [Cond.code yX3_stopOrTravel cX3_stopOrTravel 6 none, Cond.fieldLink RX3 118 "GoalLifts$Cars" "places" "[I", Cond.fieldLink RX3 125 "GoalLifts$Cars" "stopsMade" "I", Cond.methodLink RX3 115 yX0_letOut, Cond.instanceMethod yX0_letOut, Cond.selects RX0 yX0_letOut yX0_letOut, Cond.code yX0_letOut cX0_letOut 6 (some .int), Cond.methodLink RX3 121 yX0_takeIn, Cond.instanceMethod yX0_takeIn, Cond.selects RX0 yX0_takeIn yX0_takeIn, Cond.code yX0_takeIn cX0_takeIn 8 (some .int), Cond.methodLink RX3 128 yX0_aimOf, Cond.instanceMethod yX0_aimOf, Cond.selects RX0 yX0_aimOf yX0_aimOf, Cond.code yX0_aimOf cX0_aimOf 6 (some .int), Cond.methodLink RX0 61 yX0_isNearer, Cond.static yX0_isNearer, Cond.code yX0_isNearer cX0_isNearer 5 (some .boolean), Cond.methodLink RX0 65 Lib.Math.abs.name, Cond.methodLink RX3 131 yX1_travelTowards, Cond.instanceMethod yX1_travelTowards, Cond.selects RX1 yX1_travelTowards yX1_travelTowards, Cond.code yX1_travelTowards cX1_travelTowards 3 none, Cond.methodLink RL 43 yX5_pass]
def wsL_law_r17 : List Cond := [Cond.instanceMethod yX5_pass, Cond.selects RX5 yX5_pass yX5_pass, Cond.code yX5_pass cX5_pass 3 (some .int), Cond.methodLink RX5 113 yX5_ticks, Cond.instanceMethod yX5_ticks, Cond.selects RX5 yX5_ticks yX5_ticks, Cond.code yX5_ticks cX5_ticks 3 none, Cond.methodLink RX5 83 yX5_aim, Cond.instanceMethod yX5_aim, Cond.selects RX5 yX5_aim yX5_aim, Cond.code yX5_aim cX5_aim 8 (some .int), Cond.methodLink RX5 86 yX5_isStop, Cond.instanceMethod yX5_isStop, Cond.selects RX5 yX5_isStop yX5_isStop, Cond.code yX5_isStop cX5_isStop 5 (some .boolean), Cond.methodLink RX5 76 yX5_isTaken, Cond.instanceMethod yX5_isTaken, Cond.selects RX5 yX5_isTaken yX5_isTaken, Cond.code yX5_isTaken cX5_isTaken 3 (some .boolean), Cond.methodLink RX5 89 yX5_stopsNow, Cond.instanceMethod yX5_stopsNow, Cond.selects RX5 yX5_stopsNow yX5_stopsNow, Cond.code yX5_stopsNow cX5_stopsNow 3 none, Cond.methodLink RL 44 yX4_undo]
def wsL_law_r18 : List Cond := [Cond.instanceMethod yX4_undo, Cond.selects RX4 yX4_undo yX4_undo, Cond.code yX4_undo cX4_undo 1 (some .int), Cond.fieldLink RX4 98 "GoalLifts$History" "count" "I", Cond.methodLink RX4 99 yX2_restore, Cond.instanceMethod yX2_restore, Cond.selects RX2 yX2_restore yX2_restore, Cond.code yX2_restore cX2_restore 4 none, Cond.methodLink RL 48 yX5_undo, Cond.instanceMethod yX5_undo, Cond.selects RX5 yX5_undo yX5_undo, Cond.code yX5_undo cX5_undo 2 (some .int), Cond.methodLink RL 49 yX4_count, Cond.instanceMethod yX4_count, Cond.selects RX4 yX4_count yX4_count, Cond.code yX4_count cX4_count 2 (some .int), Cond.fieldLink RX4 112 "GoalLifts$Cars" "stopsMade" "I", Cond.methodLink RX4 102 yX3_hour, Cond.methodLink RX4 106 yX0_numberOfGroups, Cond.instanceMethod yX0_numberOfGroups, Cond.selects RX0 yX0_numberOfGroups yX0_numberOfGroups, Cond.code yX0_numberOfGroups cX0_numberOfGroups 3 (some .int), Cond.methodLink RX0 77 yX0_isFirstOfGroup, Cond.instanceMethod yX0_isFirstOfGroup]
def wsL_law_r19 : List Cond := [Cond.selects RX0 yX0_isFirstOfGroup yX0_isFirstOfGroup, Cond.code yX0_isFirstOfGroup cX0_isFirstOfGroup 3 (some .boolean), Cond.methodLink RX0 74 yX0_sameGroup, Cond.instanceMethod yX0_sameGroup, Cond.selects RX0 yX0_sameGroup yX0_sameGroup, Cond.code yX0_sameGroup cX0_sameGroup 3 (some .boolean), Cond.methodLink RX0 71 yX0_isInGroup, Cond.instanceMethod yX0_isInGroup, Cond.selects RX0 yX0_isInGroup yX0_isInGroup, Cond.code yX0_isInGroup cX0_isInGroup 2 (some .boolean), Cond.methodLink RX4 109 yX1_travelledByAll, Cond.instanceMethod yX1_travelledByAll, Cond.selects RX1 yX1_travelledByAll yX1_travelledByAll, Cond.code yX1_travelledByAll cX1_travelledByAll 3 (some .int), Cond.methodLink RX4 115 yX1_numberIn, Cond.instanceMethod yX1_numberIn, Cond.selects RX1 yX1_numberIn yX1_numberIn, Cond.code yX1_numberIn cX1_numberIn 4 (some .int), Cond.methodLink RL 52 yX5_count, Cond.instanceMethod yX5_count, Cond.selects RX5 yX5_count yX5_count, Cond.code yX5_count cX5_count 2 (some .int), Cond.methodLink RX5 125 yX5_groups, Cond.instanceMethod yX5_groups]
def wsL_law_r20 : List Cond := [Cond.selects RX5 yX5_groups yX5_groups, Cond.code yX5_groups cX5_groups 3 (some .int), Cond.methodLink RX5 122 yX5_isFirst, Cond.instanceMethod yX5_isFirst, Cond.selects RX5 yX5_isFirst yX5_isFirst, Cond.code yX5_isFirst cX5_isFirst 4 (some .boolean), Cond.methodLink RX5 116 yX5_isOpen, Cond.instanceMethod yX5_isOpen, Cond.selects RX5 yX5_isOpen yX5_isOpen, Cond.code yX5_isOpen cX5_isOpen 2 (some .boolean), Cond.methodLink RX5 119 yX5_areOne, Cond.instanceMethod yX5_areOne, Cond.selects RX5 yX5_areOne yX5_areOne, Cond.code yX5_areOne cX5_areOne 3 (some .boolean), Cond.methodLink RX5 128 yX5_sumOfCars, Cond.instanceMethod yX5_sumOfCars, Cond.selects RX5 yX5_sumOfCars yX5_sumOfCars, Cond.code yX5_sumOfCars cX5_sumOfCars 5 (some .int), Cond.methodLink RL 53 yX4_car, Cond.instanceMethod yX4_car, Cond.selects RX4 yX4_car yX4_car, Cond.code yX4_car cX4_car 3 (some .int), Cond.fieldLink RX4 130 "GoalLifts$Cars" "travelled" "[I", Cond.methodLink RX4 116 yX0_numberOf]
def wsL_law_r21 : List Cond := [Cond.methodLink RX4 119 yX0_stopsOf, Cond.methodLink RX4 122 yJ6_bitCount_0f7a4, Cond.methodLink RX4 127 yX0_aimOf, Cond.methodLink RX4 133 yX3_isAwake, Cond.methodLink RL 56 yX5_car, Cond.instanceMethod yX5_car, Cond.selects RX5 yX5_car yX5_car, Cond.code yX5_car cX5_car 3 (some .int), Cond.methodLink RL 57 yX4_caller, Cond.instanceMethod yX4_caller, Cond.selects RX4 yX4_caller yX4_caller, Cond.code yX4_caller cX4_caller 3 (some .int), Cond.fieldLink RX4 137 "GoalLifts$Callers" "floor" "[I", Cond.fieldLink RX4 138 "GoalLifts$Callers" "goal" "[I", Cond.fieldLink RX4 141 "GoalLifts$Callers" "phase" "[I", Cond.fieldLink RX4 144 "GoalLifts$Callers" "given" "[I", Cond.fieldLink RX4 147 "GoalLifts$Callers" "calledAt" "[I", Cond.fieldLink RX4 150 "GoalLifts$Callers" "rodeAt" "[I", Cond.fieldLink RX4 153 "GoalLifts$Callers" "thereAt" "[I", Cond.fieldLink RX4 156 "GoalLifts$Callers" "timesGiven" "[I", Cond.methodLink RX4 136 yX0_has, Cond.methodLink RL 60 yX5_caller, Cond.instanceMethod yX5_caller, Cond.selects RX5 yX5_caller yX5_caller]
def wsL_law_r22 : List Cond := [Cond.code yX5_caller cX5_caller 3 (some .int), Cond.methodLink RX5 131 yX5_isCaller, Cond.instanceMethod yX5_isCaller, Cond.selects RX5 yX5_isCaller yX5_isCaller, Cond.code yX5_isCaller cX5_isCaller 2 (some .boolean), Cond.methodLink RL 61 yX4_group, Cond.instanceMethod yX4_group, Cond.selects RX4 yX4_group yX4_group, Cond.code yX4_group cX4_group 4 (some .int), Cond.methodLink RX4 159 yX0_firstOfGroup, Cond.instanceMethod yX0_firstOfGroup, Cond.selects RX0 yX0_firstOfGroup yX0_firstOfGroup, Cond.code yX0_firstOfGroup cX0_firstOfGroup 4 (some .int), Cond.methodLink RX4 162 yX0_sizeOfGroup, Cond.instanceMethod yX0_sizeOfGroup, Cond.selects RX0 yX0_sizeOfGroup yX0_sizeOfGroup, Cond.code yX0_sizeOfGroup cX0_sizeOfGroup 4 (some .int), Cond.methodLink RL 64 yX5_group, Cond.instanceMethod yX5_group, Cond.selects RX5 yX5_group yX5_group, Cond.code yX5_group cX5_group 7 (some .int), Cond.methodLink RL 65 yX4_cost, Cond.instanceMethod yX4_cost, Cond.selects RX4 yX4_cost yX4_cost]
def wsL_law_r23 : List Cond := [Cond.code yX4_cost cX4_cost 4 (some .int), Cond.methodLink RX4 165 yX3_canBeGiven, Cond.methodLink RX4 169 yX3_costOf, Cond.methodLink RL 68 yX5_cost, Cond.instanceMethod yX5_cost, Cond.selects RX5 yX5_cost yX5_cost, Cond.code yX5_cost cX5_cost 4 (some .int), Cond.methodLink RL 69 yX4_would, Cond.instanceMethod yX4_would, Cond.selects RX4 yX4_would yX4_would, Cond.code yX4_would cX4_would 3 (some .int), Cond.methodLink RL 72 yX5_would, Cond.instanceMethod yX5_would, Cond.selects RX5 yX5_would yX5_would, Cond.code yX5_would cX5_would 3 (some .int), Cond.methodLink RL 73 yX4_thereIn, Cond.instanceMethod yX4_thereIn, Cond.selects RX4 yX4_thereIn yX4_thereIn, Cond.code yX4_thereIn cX4_thereIn 3 (some .int), Cond.methodLink RX4 172 yX3_copyFrom, Cond.methodLink RL 76 yX5_thereIn, Cond.instanceMethod yX5_thereIn, Cond.selects RX5 yX5_thereIn yX5_thereIn, Cond.code yX5_thereIn cX5_thereIn 3 (some .int)]
def wsL_law_r24 : List Cond := [Cond.methodLink RX5 134 yX5_copies, Cond.static yX5_copies, Cond.code yX5_copies cX5_copies 3 none, Cond.methodLink RL 77 yX4_waits, Cond.instanceMethod yX4_waits, Cond.selects RX4 yX4_waits yX4_waits, Cond.code yX4_waits cX4_waits 7 (some .int), Cond.methodLink RX4 175 yX0_waitOf, Cond.instanceMethod yX0_waitOf, Cond.selects RX0 yX0_waitOf yX0_waitOf, Cond.code yX0_waitOf cX0_waitOf 4 (some .int), Cond.methodLink RL 80 yX5_waits, Cond.instanceMethod yX5_waits, Cond.selects RX5 yX5_waits yX5_waits, Cond.code yX5_waits cX5_waits 7 (some .int), Cond.methodLink RX5 138 yX5_waited, Cond.instanceMethod yX5_waited, Cond.selects RX5 yX5_waited yX5_waited, Cond.code yX5_waited cX5_waited 2 (some .int), Cond.methodLink RL 81 yX4_worstCar, Cond.instanceMethod yX4_worstCar, Cond.selects RX4 yX4_worstCar yX4_worstCar, Cond.code yX4_worstCar cX4_worstCar 6 (some .int), Cond.methodLink RX4 178 yX4_allThereInWithout]
def wsL_law_r25 : List Cond := [Cond.instanceMethod yX4_allThereInWithout, Cond.selects RX4 yX4_allThereInWithout yX4_allThereInWithout, Cond.code yX4_allThereInWithout cX4_allThereInWithout 3 (some .int), Cond.methodLink RL 84 yX5_worstCar, Cond.instanceMethod yX5_worstCar, Cond.selects RX5 yX5_worstCar yX5_worstCar, Cond.code yX5_worstCar cX5_worstCar 6 (some .int), Cond.methodLink RX5 141 yX5_allThere, Cond.instanceMethod yX5_allThere, Cond.selects RX5 yX5_allThere yX5_allThere, Cond.code yX5_allThere cX5_allThere 2 (some .int)]
def wsL_law : List Cond := (wsL_law_r1 ++ (wsL_law_r2 ++ (wsL_law_r3 ++ (wsL_law_r4 ++ (wsL_law_r5 ++ (wsL_law_r6 ++ (wsL_law_r7 ++ (wsL_law_r8 ++ (wsL_law_r9 ++ (wsL_law_r10 ++ (wsL_law_r11 ++ (wsL_law_r12 ++ (wsL_law_r13 ++ (wsL_law_r14 ++ (wsL_law_r15 ++ (wsL_law_r16 ++ (wsL_law_r17 ++ (wsL_law_r18 ++ (wsL_law_r19 ++ (wsL_law_r20 ++ (wsL_law_r21 ++ (wsL_law_r22 ++ (wsL_law_r23 ++ (wsL_law_r24 ++ wsL_law_r25)))))))))))))))))))))))) ++ wsX40 ++ wsX50 ++ wsX30 ++ wsX20 ++ wsX10 ++ wsX00 ++ ([] : List Cond)
set_option maxRecDepth 20000 in
theorem inlX0 : ∀ w ∈ wsX00, w ∈ wsL_law := fun _ h => List.mem_append_left _ (List.mem_append_right _ h)
theorem inlX1 : ∀ w ∈ wsX10, w ∈ wsL_law := fun _ h => List.mem_append_left _ (List.mem_append_left _ (List.mem_append_right _ h))
theorem inlX2 : ∀ w ∈ wsX20, w ∈ wsL_law := fun _ h => List.mem_append_left _ (List.mem_append_left _ (List.mem_append_left _ (List.mem_append_right _ h)))
theorem inlX3 : ∀ w ∈ wsX30, w ∈ wsL_law := fun _ h => List.mem_append_left _ (List.mem_append_left _ (List.mem_append_left _ (List.mem_append_left _ (List.mem_append_right _ h))))
theorem inlX4 : ∀ w ∈ wsX40, w ∈ wsL_law := fun _ h => List.mem_append_left _ (List.mem_append_left _ (List.mem_append_left _ (List.mem_append_left _ (List.mem_append_left _ (List.mem_append_left _ (List.mem_append_right _ h))))))
theorem inlX5 : ∀ w ∈ wsX50, w ∈ wsL_law := fun _ h => List.mem_append_left _ (List.mem_append_left _ (List.mem_append_left _ (List.mem_append_left _ (List.mem_append_left _ (List.mem_append_right _ h)))))
theorem inJ6 : ∀ w ∈ wsJ60, w ∈ lw_tbl := by decide +kernel
theorem inJ9 : ∀ w ∈ wsJ90, w ∈ lw_tbl := by decide +kernel
theorem inJ10 : ∀ w ∈ wsJ100, w ∈ lw_tbl := by decide +kernel
abbrev vwCl : List vw_C := [(RX0, TX0, 9), (RX1, TX1, 8), (RX2, TX2, 3), (RX3, TX3, 4), (RX4, TX4, 3), (RX5, TX5, 5)]
end
section
theorem dX0_init_0 : decode cX0_init 0 = .ok (.aload_n 0, 1) := by decide +kernel
theorem dX0_init_1 : decode cX0_init 1 = .ok (.invokespecial 3, 3) := by decide +kernel
theorem dX0_init_4 : decode cX0_init 4 = .ok (.aload_n 0, 1) := by decide +kernel
theorem dX0_init_5 : decode cX0_init 5 = .ok (.bipush 40, 2) := by decide +kernel
theorem dX0_init_7 : decode cX0_init 7 = .ok (.newarray .int, 2) := by decide +kernel
theorem dX0_init_9 : decode cX0_init 9 = .ok (.putfield 9, 3) := by decide +kernel
theorem dX0_init_12 : decode cX0_init 12 = .ok (.aload_n 0, 1) := by decide +kernel
theorem dX0_init_13 : decode cX0_init 13 = .ok (.bipush 40, 2) := by decide +kernel
theorem dX0_init_15 : decode cX0_init 15 = .ok (.newarray .int, 2) := by decide +kernel
theorem dX0_init_17 : decode cX0_init 17 = .ok (.putfield 15, 3) := by decide +kernel
theorem dX0_init_20 : decode cX0_init 20 = .ok (.aload_n 0, 1) := by decide +kernel
theorem dX0_init_21 : decode cX0_init 21 = .ok (.bipush 40, 2) := by decide +kernel
theorem dX0_init_23 : decode cX0_init 23 = .ok (.newarray .int, 2) := by decide +kernel
theorem dX0_init_25 : decode cX0_init 25 = .ok (.putfield 18, 3) := by decide +kernel
theorem dX0_init_28 : decode cX0_init 28 = .ok (.aload_n 0, 1) := by decide +kernel
theorem dX0_init_29 : decode cX0_init 29 = .ok (.bipush 40, 2) := by decide +kernel
theorem dX0_init_31 : decode cX0_init 31 = .ok (.newarray .int, 2) := by decide +kernel
theorem dX0_init_33 : decode cX0_init 33 = .ok (.putfield 21, 3) := by decide +kernel
theorem dX0_init_36 : decode cX0_init 36 = .ok (.aload_n 0, 1) := by decide +kernel
theorem dX0_init_37 : decode cX0_init 37 = .ok (.bipush 40, 2) := by decide +kernel
theorem dX0_init_39 : decode cX0_init 39 = .ok (.newarray .int, 2) := by decide +kernel
theorem dX0_init_41 : decode cX0_init 41 = .ok (.putfield 24, 3) := by decide +kernel
theorem dX0_init_44 : decode cX0_init 44 = .ok (.aload_n 0, 1) := by decide +kernel
theorem dX0_init_45 : decode cX0_init 45 = .ok (.bipush 40, 2) := by decide +kernel
theorem dX0_init_47 : decode cX0_init 47 = .ok (.newarray .int, 2) := by decide +kernel
theorem dX0_init_49 : decode cX0_init 49 = .ok (.putfield 27, 3) := by decide +kernel
theorem dX0_init_52 : decode cX0_init 52 = .ok (.aload_n 0, 1) := by decide +kernel
theorem dX0_init_53 : decode cX0_init 53 = .ok (.bipush 40, 2) := by decide +kernel
theorem dX0_init_55 : decode cX0_init 55 = .ok (.newarray .int, 2) := by decide +kernel
theorem dX0_init_57 : decode cX0_init 57 = .ok (.putfield 30, 3) := by decide +kernel
theorem dX0_init_60 : decode cX0_init 60 = .ok (.aload_n 0, 1) := by decide +kernel
theorem dX0_init_61 : decode cX0_init 61 = .ok (.bipush 40, 2) := by decide +kernel
theorem dX0_init_63 : decode cX0_init 63 = .ok (.newarray .int, 2) := by decide +kernel
theorem dX0_init_65 : decode cX0_init 65 = .ok (.putfield 33, 3) := by decide +kernel
theorem dX0_init_68 : decode cX0_init 68 = .ok (.return_, 1) := by decide +kernel
theorem dX0_copyFrom_0 : decode cX0_copyFrom 0 = .ok (.aload_n 0, 1) := by decide +kernel
theorem dX0_copyFrom_1 : decode cX0_copyFrom 1 = .ok (.aload_n 1, 1) := by decide +kernel
theorem dX0_copyFrom_2 : decode cX0_copyFrom 2 = .ok (.getfield 36, 3) := by decide +kernel
theorem dX0_copyFrom_5 : decode cX0_copyFrom 5 = .ok (.putfield 36, 3) := by decide +kernel
theorem dX0_copyFrom_8 : decode cX0_copyFrom 8 = .ok (.aload_n 1, 1) := by decide +kernel
theorem dX0_copyFrom_9 : decode cX0_copyFrom 9 = .ok (.getfield 9, 3) := by decide +kernel
theorem dX0_copyFrom_12 : decode cX0_copyFrom 12 = .ok (.iconst 0, 1) := by decide +kernel
theorem dX0_copyFrom_13 : decode cX0_copyFrom 13 = .ok (.aload_n 0, 1) := by decide +kernel
theorem dX0_copyFrom_14 : decode cX0_copyFrom 14 = .ok (.getfield 9, 3) := by decide +kernel
theorem dX0_copyFrom_17 : decode cX0_copyFrom 17 = .ok (.iconst 0, 1) := by decide +kernel
theorem dX0_copyFrom_18 : decode cX0_copyFrom 18 = .ok (.bipush 40, 2) := by decide +kernel
theorem dX0_copyFrom_20 : decode cX0_copyFrom 20 = .ok (.invokestatic 40, 3) := by decide +kernel
theorem dX0_copyFrom_23 : decode cX0_copyFrom 23 = .ok (.aload_n 1, 1) := by decide +kernel
theorem dX0_copyFrom_24 : decode cX0_copyFrom 24 = .ok (.getfield 15, 3) := by decide +kernel
theorem dX0_copyFrom_27 : decode cX0_copyFrom 27 = .ok (.iconst 0, 1) := by decide +kernel
theorem dX0_copyFrom_28 : decode cX0_copyFrom 28 = .ok (.aload_n 0, 1) := by decide +kernel
theorem dX0_copyFrom_29 : decode cX0_copyFrom 29 = .ok (.getfield 15, 3) := by decide +kernel
theorem dX0_copyFrom_32 : decode cX0_copyFrom 32 = .ok (.iconst 0, 1) := by decide +kernel
theorem dX0_copyFrom_33 : decode cX0_copyFrom 33 = .ok (.bipush 40, 2) := by decide +kernel
theorem dX0_copyFrom_35 : decode cX0_copyFrom 35 = .ok (.invokestatic 40, 3) := by decide +kernel
theorem dX0_copyFrom_38 : decode cX0_copyFrom 38 = .ok (.aload_n 1, 1) := by decide +kernel
theorem dX0_copyFrom_39 : decode cX0_copyFrom 39 = .ok (.getfield 18, 3) := by decide +kernel
theorem dX0_copyFrom_42 : decode cX0_copyFrom 42 = .ok (.iconst 0, 1) := by decide +kernel
theorem dX0_copyFrom_43 : decode cX0_copyFrom 43 = .ok (.aload_n 0, 1) := by decide +kernel
theorem dX0_copyFrom_44 : decode cX0_copyFrom 44 = .ok (.getfield 18, 3) := by decide +kernel
theorem dX0_copyFrom_47 : decode cX0_copyFrom 47 = .ok (.iconst 0, 1) := by decide +kernel
theorem dX0_copyFrom_48 : decode cX0_copyFrom 48 = .ok (.bipush 40, 2) := by decide +kernel
theorem dX0_copyFrom_50 : decode cX0_copyFrom 50 = .ok (.invokestatic 40, 3) := by decide +kernel
theorem dX0_copyFrom_53 : decode cX0_copyFrom 53 = .ok (.aload_n 1, 1) := by decide +kernel
theorem dX0_copyFrom_54 : decode cX0_copyFrom 54 = .ok (.getfield 21, 3) := by decide +kernel
theorem dX0_copyFrom_57 : decode cX0_copyFrom 57 = .ok (.iconst 0, 1) := by decide +kernel
theorem dX0_copyFrom_58 : decode cX0_copyFrom 58 = .ok (.aload_n 0, 1) := by decide +kernel
theorem dX0_copyFrom_59 : decode cX0_copyFrom 59 = .ok (.getfield 21, 3) := by decide +kernel
theorem dX0_copyFrom_62 : decode cX0_copyFrom 62 = .ok (.iconst 0, 1) := by decide +kernel
theorem dX0_copyFrom_63 : decode cX0_copyFrom 63 = .ok (.bipush 40, 2) := by decide +kernel
theorem dX0_copyFrom_65 : decode cX0_copyFrom 65 = .ok (.invokestatic 40, 3) := by decide +kernel
theorem dX0_copyFrom_68 : decode cX0_copyFrom 68 = .ok (.aload_n 1, 1) := by decide +kernel
theorem dX0_copyFrom_69 : decode cX0_copyFrom 69 = .ok (.getfield 24, 3) := by decide +kernel
theorem dX0_copyFrom_72 : decode cX0_copyFrom 72 = .ok (.iconst 0, 1) := by decide +kernel
theorem dX0_copyFrom_73 : decode cX0_copyFrom 73 = .ok (.aload_n 0, 1) := by decide +kernel
theorem dX0_copyFrom_74 : decode cX0_copyFrom 74 = .ok (.getfield 24, 3) := by decide +kernel
theorem dX0_copyFrom_77 : decode cX0_copyFrom 77 = .ok (.iconst 0, 1) := by decide +kernel
theorem dX0_copyFrom_78 : decode cX0_copyFrom 78 = .ok (.bipush 40, 2) := by decide +kernel
theorem dX0_copyFrom_80 : decode cX0_copyFrom 80 = .ok (.invokestatic 40, 3) := by decide +kernel
theorem dX0_copyFrom_83 : decode cX0_copyFrom 83 = .ok (.aload_n 1, 1) := by decide +kernel
theorem dX0_copyFrom_84 : decode cX0_copyFrom 84 = .ok (.getfield 27, 3) := by decide +kernel
theorem dX0_copyFrom_87 : decode cX0_copyFrom 87 = .ok (.iconst 0, 1) := by decide +kernel
theorem dX0_copyFrom_88 : decode cX0_copyFrom 88 = .ok (.aload_n 0, 1) := by decide +kernel
theorem dX0_copyFrom_89 : decode cX0_copyFrom 89 = .ok (.getfield 27, 3) := by decide +kernel
theorem dX0_copyFrom_92 : decode cX0_copyFrom 92 = .ok (.iconst 0, 1) := by decide +kernel
theorem dX0_copyFrom_93 : decode cX0_copyFrom 93 = .ok (.bipush 40, 2) := by decide +kernel
theorem dX0_copyFrom_95 : decode cX0_copyFrom 95 = .ok (.invokestatic 40, 3) := by decide +kernel
theorem dX0_copyFrom_98 : decode cX0_copyFrom 98 = .ok (.aload_n 1, 1) := by decide +kernel
theorem dX0_copyFrom_99 : decode cX0_copyFrom 99 = .ok (.getfield 30, 3) := by decide +kernel
theorem dX0_copyFrom_102 : decode cX0_copyFrom 102 = .ok (.iconst 0, 1) := by decide +kernel
theorem dX0_copyFrom_103 : decode cX0_copyFrom 103 = .ok (.aload_n 0, 1) := by decide +kernel
theorem dX0_copyFrom_104 : decode cX0_copyFrom 104 = .ok (.getfield 30, 3) := by decide +kernel
theorem dX0_copyFrom_107 : decode cX0_copyFrom 107 = .ok (.iconst 0, 1) := by decide +kernel
theorem dX0_copyFrom_108 : decode cX0_copyFrom 108 = .ok (.bipush 40, 2) := by decide +kernel
theorem dX0_copyFrom_110 : decode cX0_copyFrom 110 = .ok (.invokestatic 40, 3) := by decide +kernel
theorem dX0_copyFrom_113 : decode cX0_copyFrom 113 = .ok (.aload_n 1, 1) := by decide +kernel
theorem dX0_copyFrom_114 : decode cX0_copyFrom 114 = .ok (.getfield 33, 3) := by decide +kernel
theorem dX0_copyFrom_117 : decode cX0_copyFrom 117 = .ok (.iconst 0, 1) := by decide +kernel
theorem dX0_copyFrom_118 : decode cX0_copyFrom 118 = .ok (.aload_n 0, 1) := by decide +kernel
theorem dX0_copyFrom_119 : decode cX0_copyFrom 119 = .ok (.getfield 33, 3) := by decide +kernel
theorem dX0_copyFrom_122 : decode cX0_copyFrom 122 = .ok (.iconst 0, 1) := by decide +kernel
theorem dX0_copyFrom_123 : decode cX0_copyFrom 123 = .ok (.bipush 40, 2) := by decide +kernel
theorem dX0_copyFrom_125 : decode cX0_copyFrom 125 = .ok (.invokestatic 40, 3) := by decide +kernel
theorem dX0_copyFrom_128 : decode cX0_copyFrom 128 = .ok (.return_, 1) := by decide +kernel
theorem dX0_has_0 : decode cX0_has 0 = .ok (.iload_n 1, 1) := by decide +kernel
theorem dX0_has_1 : decode cX0_has 1 = .ok (.ifCond .lt 15, 3) := by decide +kernel
theorem dX0_has_4 : decode cX0_has 4 = .ok (.iload_n 1, 1) := by decide +kernel
theorem dX0_has_5 : decode cX0_has 5 = .ok (.aload_n 0, 1) := by decide +kernel
theorem dX0_has_6 : decode cX0_has 6 = .ok (.getfield 36, 3) := by decide +kernel
theorem dX0_has_9 : decode cX0_has 9 = .ok (.if_icmp .ge 7, 3) := by decide +kernel
theorem dX0_has_12 : decode cX0_has 12 = .ok (.iconst 1, 1) := by decide +kernel
theorem dX0_has_13 : decode cX0_has 13 = .ok (.goto 4, 3) := by decide +kernel
theorem dX0_has_16 : decode cX0_has 16 = .ok (.iconst 0, 1) := by decide +kernel
theorem dX0_has_17 : decode cX0_has 17 = .ok (.ireturn, 1) := by decide +kernel
theorem dX0_add_0 : decode cX0_add 0 = .ok (.aload_n 0, 1) := by decide +kernel
theorem dX0_add_1 : decode cX0_add 1 = .ok (.getfield 36, 3) := by decide +kernel
theorem dX0_add_4 : decode cX0_add 4 = .ok (.istore 4, 2) := by decide +kernel
theorem dX0_add_6 : decode cX0_add 6 = .ok (.iload 4, 2) := by decide +kernel
theorem dX0_add_8 : decode cX0_add 8 = .ok (.bipush 40, 2) := by decide +kernel
theorem dX0_add_10 : decode cX0_add 10 = .ok (.if_icmp .lt 6, 3) := by decide +kernel
theorem dX0_add_13 : decode cX0_add 13 = .ok (.bipush (-9), 2) := by decide +kernel
theorem dX0_add_15 : decode cX0_add 15 = .ok (.ireturn, 1) := by decide +kernel
theorem dX0_add_16 : decode cX0_add 16 = .ok (.aload_n 0, 1) := by decide +kernel
theorem dX0_add_17 : decode cX0_add 17 = .ok (.getfield 9, 3) := by decide +kernel
theorem dX0_add_20 : decode cX0_add 20 = .ok (.iload 4, 2) := by decide +kernel
theorem dX0_add_22 : decode cX0_add 22 = .ok (.iload_n 1, 1) := by decide +kernel
theorem dX0_add_23 : decode cX0_add 23 = .ok (.iastore, 1) := by decide +kernel
theorem dX0_add_24 : decode cX0_add 24 = .ok (.aload_n 0, 1) := by decide +kernel
theorem dX0_add_25 : decode cX0_add 25 = .ok (.getfield 15, 3) := by decide +kernel
theorem dX0_add_28 : decode cX0_add 28 = .ok (.iload 4, 2) := by decide +kernel
theorem dX0_add_30 : decode cX0_add 30 = .ok (.iload_n 2, 1) := by decide +kernel
theorem dX0_add_31 : decode cX0_add 31 = .ok (.iastore, 1) := by decide +kernel
theorem dX0_add_32 : decode cX0_add 32 = .ok (.aload_n 0, 1) := by decide +kernel
theorem dX0_add_33 : decode cX0_add 33 = .ok (.getfield 18, 3) := by decide +kernel
theorem dX0_add_36 : decode cX0_add 36 = .ok (.iload 4, 2) := by decide +kernel
theorem dX0_add_38 : decode cX0_add 38 = .ok (.iconst 0, 1) := by decide +kernel
theorem dX0_add_39 : decode cX0_add 39 = .ok (.iastore, 1) := by decide +kernel
theorem dX0_add_40 : decode cX0_add 40 = .ok (.aload_n 0, 1) := by decide +kernel
theorem dX0_add_41 : decode cX0_add 41 = .ok (.getfield 21, 3) := by decide +kernel
theorem dX0_add_44 : decode cX0_add 44 = .ok (.iload 4, 2) := by decide +kernel
theorem dX0_add_46 : decode cX0_add 46 = .ok (.bipush (-9), 2) := by decide +kernel
theorem dX0_add_48 : decode cX0_add 48 = .ok (.iastore, 1) := by decide +kernel
theorem dX0_add_49 : decode cX0_add 49 = .ok (.aload_n 0, 1) := by decide +kernel
theorem dX0_add_50 : decode cX0_add 50 = .ok (.getfield 24, 3) := by decide +kernel
theorem dX0_add_53 : decode cX0_add 53 = .ok (.iload 4, 2) := by decide +kernel
theorem dX0_add_55 : decode cX0_add 55 = .ok (.iload_n 3, 1) := by decide +kernel
theorem dX0_add_56 : decode cX0_add 56 = .ok (.iastore, 1) := by decide +kernel
theorem dX0_add_57 : decode cX0_add 57 = .ok (.aload_n 0, 1) := by decide +kernel
theorem dX0_add_58 : decode cX0_add 58 = .ok (.getfield 27, 3) := by decide +kernel
theorem dX0_add_61 : decode cX0_add 61 = .ok (.iload 4, 2) := by decide +kernel
theorem dX0_add_63 : decode cX0_add 63 = .ok (.bipush (-9), 2) := by decide +kernel
theorem dX0_add_65 : decode cX0_add 65 = .ok (.iastore, 1) := by decide +kernel
theorem dX0_add_66 : decode cX0_add 66 = .ok (.aload_n 0, 1) := by decide +kernel
theorem dX0_add_67 : decode cX0_add 67 = .ok (.getfield 30, 3) := by decide +kernel
theorem dX0_add_70 : decode cX0_add 70 = .ok (.iload 4, 2) := by decide +kernel
theorem dX0_add_72 : decode cX0_add 72 = .ok (.bipush (-9), 2) := by decide +kernel
theorem dX0_add_74 : decode cX0_add 74 = .ok (.iastore, 1) := by decide +kernel
theorem dX0_add_75 : decode cX0_add 75 = .ok (.aload_n 0, 1) := by decide +kernel
theorem dX0_add_76 : decode cX0_add 76 = .ok (.getfield 33, 3) := by decide +kernel
theorem dX0_add_79 : decode cX0_add 79 = .ok (.iload 4, 2) := by decide +kernel
theorem dX0_add_81 : decode cX0_add 81 = .ok (.iconst 0, 1) := by decide +kernel
theorem dX0_add_82 : decode cX0_add 82 = .ok (.iastore, 1) := by decide +kernel
theorem dX0_add_83 : decode cX0_add 83 = .ok (.aload_n 0, 1) := by decide +kernel
theorem dX0_add_84 : decode cX0_add 84 = .ok (.iload 4, 2) := by decide +kernel
theorem dX0_add_86 : decode cX0_add 86 = .ok (.iconst 1, 1) := by decide +kernel
theorem dX0_add_87 : decode cX0_add 87 = .ok (.iadd, 1) := by decide +kernel
theorem dX0_add_88 : decode cX0_add 88 = .ok (.putfield 36, 3) := by decide +kernel
theorem dX0_add_91 : decode cX0_add 91 = .ok (.iload 4, 2) := by decide +kernel
theorem dX0_add_93 : decode cX0_add 93 = .ok (.ireturn, 1) := by decide +kernel
set_option maxRecDepth 20000 in
theorem ggX0_give_X0_has : GoodIn wsX0_give wsX0_has := goodIn_r _ [8, 9, 10, 11, 12, 13, 14, 15, 16, 17, 18] (by decide +kernel) (by decide +kernel)
set_option maxRecDepth 20000 in
theorem gX0_give_X0_has : GoodIn wsX0_give (wsV RX0 46 RX0 yX0_has wsX0_has) := goodIn_app (goodIn_of _ (by decide +kernel)) ggX0_give_X0_has
theorem dX0_give_0 : decode cX0_give 0 = .ok (.iload_n 2, 1) := by decide +kernel
theorem dX0_give_1 : decode cX0_give 1 = .ok (.bipush (-9), 2) := by decide +kernel
theorem dX0_give_3 : decode cX0_give 3 = .ok (.if_icmp .eq 11, 3) := by decide +kernel
theorem dX0_give_6 : decode cX0_give 6 = .ok (.aload_n 0, 1) := by decide +kernel
theorem dX0_give_7 : decode cX0_give 7 = .ok (.iload_n 1, 1) := by decide +kernel
theorem dX0_give_8 : decode cX0_give 8 = .ok (.invokevirtual 46, 3) := by decide +kernel
theorem dX0_give_11 : decode cX0_give 11 = .ok (.ifCond .ne 4, 3) := by decide +kernel
theorem dX0_give_14 : decode cX0_give 14 = .ok (.return_, 1) := by decide +kernel
theorem dX0_give_15 : decode cX0_give 15 = .ok (.aload_n 0, 1) := by decide +kernel
theorem dX0_give_16 : decode cX0_give 16 = .ok (.getfield 18, 3) := by decide +kernel
theorem dX0_give_19 : decode cX0_give 19 = .ok (.iload_n 1, 1) := by decide +kernel
theorem dX0_give_20 : decode cX0_give 20 = .ok (.iconst 1, 1) := by decide +kernel
theorem dX0_give_21 : decode cX0_give 21 = .ok (.iastore, 1) := by decide +kernel
theorem dX0_give_22 : decode cX0_give 22 = .ok (.aload_n 0, 1) := by decide +kernel
theorem dX0_give_23 : decode cX0_give 23 = .ok (.getfield 21, 3) := by decide +kernel
theorem dX0_give_26 : decode cX0_give 26 = .ok (.iload_n 1, 1) := by decide +kernel
theorem dX0_give_27 : decode cX0_give 27 = .ok (.iload_n 2, 1) := by decide +kernel
theorem dX0_give_28 : decode cX0_give 28 = .ok (.iastore, 1) := by decide +kernel
theorem dX0_give_29 : decode cX0_give 29 = .ok (.aload_n 0, 1) := by decide +kernel
theorem dX0_give_30 : decode cX0_give 30 = .ok (.getfield 33, 3) := by decide +kernel
theorem dX0_give_33 : decode cX0_give 33 = .ok (.iload_n 1, 1) := by decide +kernel
theorem dX0_give_34 : decode cX0_give 34 = .ok (.dup2, 1) := by decide +kernel
theorem dX0_give_35 : decode cX0_give 35 = .ok (.iaload, 1) := by decide +kernel
theorem dX0_give_36 : decode cX0_give 36 = .ok (.iconst 1, 1) := by decide +kernel
theorem dX0_give_37 : decode cX0_give 37 = .ok (.iadd, 1) := by decide +kernel
theorem dX0_give_38 : decode cX0_give 38 = .ok (.iastore, 1) := by decide +kernel
theorem dX0_give_39 : decode cX0_give 39 = .ok (.return_, 1) := by decide +kernel
theorem dX0_rides_0 : decode cX0_rides 0 = .ok (.aload_n 0, 1) := by decide +kernel
theorem dX0_rides_1 : decode cX0_rides 1 = .ok (.getfield 18, 3) := by decide +kernel
theorem dX0_rides_4 : decode cX0_rides 4 = .ok (.iload_n 1, 1) := by decide +kernel
theorem dX0_rides_5 : decode cX0_rides 5 = .ok (.iaload, 1) := by decide +kernel
theorem dX0_rides_6 : decode cX0_rides 6 = .ok (.iconst 2, 1) := by decide +kernel
theorem dX0_rides_7 : decode cX0_rides 7 = .ok (.if_icmp .ne 17, 3) := by decide +kernel
theorem dX0_rides_10 : decode cX0_rides 10 = .ok (.aload_n 0, 1) := by decide +kernel
theorem dX0_rides_11 : decode cX0_rides 11 = .ok (.getfield 21, 3) := by decide +kernel
theorem dX0_rides_14 : decode cX0_rides 14 = .ok (.iload_n 1, 1) := by decide +kernel
theorem dX0_rides_15 : decode cX0_rides 15 = .ok (.iaload, 1) := by decide +kernel
theorem dX0_rides_16 : decode cX0_rides 16 = .ok (.iload_n 2, 1) := by decide +kernel
theorem dX0_rides_17 : decode cX0_rides 17 = .ok (.if_icmp .ne 7, 3) := by decide +kernel
theorem dX0_rides_20 : decode cX0_rides 20 = .ok (.iconst 1, 1) := by decide +kernel
theorem dX0_rides_21 : decode cX0_rides 21 = .ok (.goto 4, 3) := by decide +kernel
theorem dX0_rides_24 : decode cX0_rides 24 = .ok (.iconst 0, 1) := by decide +kernel
theorem dX0_rides_25 : decode cX0_rides 25 = .ok (.ireturn, 1) := by decide +kernel
theorem dX0_waitsFor_0 : decode cX0_waitsFor 0 = .ok (.aload_n 0, 1) := by decide +kernel
theorem dX0_waitsFor_1 : decode cX0_waitsFor 1 = .ok (.getfield 18, 3) := by decide +kernel
theorem dX0_waitsFor_4 : decode cX0_waitsFor 4 = .ok (.iload_n 1, 1) := by decide +kernel
theorem dX0_waitsFor_5 : decode cX0_waitsFor 5 = .ok (.iaload, 1) := by decide +kernel
theorem dX0_waitsFor_6 : decode cX0_waitsFor 6 = .ok (.iconst 1, 1) := by decide +kernel
theorem dX0_waitsFor_7 : decode cX0_waitsFor 7 = .ok (.if_icmp .ne 17, 3) := by decide +kernel
theorem dX0_waitsFor_10 : decode cX0_waitsFor 10 = .ok (.aload_n 0, 1) := by decide +kernel
theorem dX0_waitsFor_11 : decode cX0_waitsFor 11 = .ok (.getfield 21, 3) := by decide +kernel
theorem dX0_waitsFor_14 : decode cX0_waitsFor 14 = .ok (.iload_n 1, 1) := by decide +kernel
theorem dX0_waitsFor_15 : decode cX0_waitsFor 15 = .ok (.iaload, 1) := by decide +kernel
theorem dX0_waitsFor_16 : decode cX0_waitsFor 16 = .ok (.iload_n 2, 1) := by decide +kernel
theorem dX0_waitsFor_17 : decode cX0_waitsFor 17 = .ok (.if_icmp .ne 7, 3) := by decide +kernel
theorem dX0_waitsFor_20 : decode cX0_waitsFor 20 = .ok (.iconst 1, 1) := by decide +kernel
theorem dX0_waitsFor_21 : decode cX0_waitsFor 21 = .ok (.goto 4, 3) := by decide +kernel
theorem dX0_waitsFor_24 : decode cX0_waitsFor 24 = .ok (.iconst 0, 1) := by decide +kernel
theorem dX0_waitsFor_25 : decode cX0_waitsFor 25 = .ok (.ireturn, 1) := by decide +kernel
theorem dX0_numberIn_0 : decode cX0_numberIn 0 = .ok (.iconst 0, 1) := by decide +kernel
theorem dX0_numberIn_1 : decode cX0_numberIn 1 = .ok (.istore_n 2, 1) := by decide +kernel
theorem dX0_numberIn_2 : decode cX0_numberIn 2 = .ok (.iconst 0, 1) := by decide +kernel
theorem dX0_numberIn_3 : decode cX0_numberIn 3 = .ok (.istore_n 3, 1) := by decide +kernel
theorem dX0_numberIn_4 : decode cX0_numberIn 4 = .ok (.iload_n 3, 1) := by decide +kernel
theorem dX0_numberIn_5 : decode cX0_numberIn 5 = .ok (.aload_n 0, 1) := by decide +kernel
theorem dX0_numberIn_6 : decode cX0_numberIn 6 = .ok (.getfield 36, 3) := by decide +kernel
theorem dX0_numberIn_9 : decode cX0_numberIn 9 = .ok (.if_icmp .ge 22, 3) := by decide +kernel
theorem dX0_numberIn_12 : decode cX0_numberIn 12 = .ok (.aload_n 0, 1) := by decide +kernel
theorem dX0_numberIn_13 : decode cX0_numberIn 13 = .ok (.getfield 18, 3) := by decide +kernel
theorem dX0_numberIn_16 : decode cX0_numberIn 16 = .ok (.iload_n 3, 1) := by decide +kernel
theorem dX0_numberIn_17 : decode cX0_numberIn 17 = .ok (.iaload, 1) := by decide +kernel
theorem dX0_numberIn_18 : decode cX0_numberIn 18 = .ok (.iload_n 1, 1) := by decide +kernel
theorem dX0_numberIn_19 : decode cX0_numberIn 19 = .ok (.if_icmp .ne 6, 3) := by decide +kernel
theorem dX0_numberIn_22 : decode cX0_numberIn 22 = .ok (.iinc 2 1, 3) := by decide +kernel
theorem dX0_numberIn_25 : decode cX0_numberIn 25 = .ok (.iinc 3 1, 3) := by decide +kernel
theorem dX0_numberIn_28 : decode cX0_numberIn 28 = .ok (.goto (-24), 3) := by decide +kernel
theorem dX0_numberIn_31 : decode cX0_numberIn 31 = .ok (.iload_n 2, 1) := by decide +kernel
theorem dX0_numberIn_32 : decode cX0_numberIn 32 = .ok (.ireturn, 1) := by decide +kernel
theorem dX0_numberOf_0 : decode cX0_numberOf 0 = .ok (.iconst 0, 1) := by decide +kernel
theorem dX0_numberOf_1 : decode cX0_numberOf 1 = .ok (.istore_n 3, 1) := by decide +kernel
theorem dX0_numberOf_2 : decode cX0_numberOf 2 = .ok (.iconst 0, 1) := by decide +kernel
theorem dX0_numberOf_3 : decode cX0_numberOf 3 = .ok (.istore 4, 2) := by decide +kernel
theorem dX0_numberOf_5 : decode cX0_numberOf 5 = .ok (.iload 4, 2) := by decide +kernel
theorem dX0_numberOf_7 : decode cX0_numberOf 7 = .ok (.aload_n 0, 1) := by decide +kernel
theorem dX0_numberOf_8 : decode cX0_numberOf 8 = .ok (.getfield 36, 3) := by decide +kernel
theorem dX0_numberOf_11 : decode cX0_numberOf 11 = .ok (.if_icmp .ge 34, 3) := by decide +kernel
theorem dX0_numberOf_14 : decode cX0_numberOf 14 = .ok (.aload_n 0, 1) := by decide +kernel
theorem dX0_numberOf_15 : decode cX0_numberOf 15 = .ok (.getfield 18, 3) := by decide +kernel
theorem dX0_numberOf_18 : decode cX0_numberOf 18 = .ok (.iload 4, 2) := by decide +kernel
theorem dX0_numberOf_20 : decode cX0_numberOf 20 = .ok (.iaload, 1) := by decide +kernel
theorem dX0_numberOf_21 : decode cX0_numberOf 21 = .ok (.iload_n 2, 1) := by decide +kernel
theorem dX0_numberOf_22 : decode cX0_numberOf 22 = .ok (.if_icmp .ne 17, 3) := by decide +kernel
theorem dX0_numberOf_25 : decode cX0_numberOf 25 = .ok (.aload_n 0, 1) := by decide +kernel
theorem dX0_numberOf_26 : decode cX0_numberOf 26 = .ok (.getfield 21, 3) := by decide +kernel
theorem dX0_numberOf_29 : decode cX0_numberOf 29 = .ok (.iload 4, 2) := by decide +kernel
theorem dX0_numberOf_31 : decode cX0_numberOf 31 = .ok (.iaload, 1) := by decide +kernel
theorem dX0_numberOf_32 : decode cX0_numberOf 32 = .ok (.iload_n 1, 1) := by decide +kernel
theorem dX0_numberOf_33 : decode cX0_numberOf 33 = .ok (.if_icmp .ne 6, 3) := by decide +kernel
theorem dX0_numberOf_36 : decode cX0_numberOf 36 = .ok (.iinc 3 1, 3) := by decide +kernel
theorem dX0_numberOf_39 : decode cX0_numberOf 39 = .ok (.iinc 4 1, 3) := by decide +kernel
theorem dX0_numberOf_42 : decode cX0_numberOf 42 = .ok (.goto (-37), 3) := by decide +kernel
theorem dX0_numberOf_45 : decode cX0_numberOf 45 = .ok (.iload_n 3, 1) := by decide +kernel
theorem dX0_numberOf_46 : decode cX0_numberOf 46 = .ok (.ireturn, 1) := by decide +kernel
set_option maxRecDepth 20000 in
theorem ggX0_numberWith_X0_numberOf : GoodIn wsX0_numberWith wsX0_numberOf := goodIn_r _ [5, 6, 7, 8, 9, 10, 11, 12, 13, 14, 15, 16, 17] (by decide +kernel) (by decide +kernel)
set_option maxRecDepth 20000 in
theorem gX0_numberWith_X0_numberOf : GoodIn wsX0_numberWith (wsV RX0 50 RX0 yX0_numberOf wsX0_numberOf) := goodIn_app (goodIn_of _ (by decide +kernel)) ggX0_numberWith_X0_numberOf
theorem dX0_numberWith_0 : decode cX0_numberWith 0 = .ok (.aload_n 0, 1) := by decide +kernel
theorem dX0_numberWith_1 : decode cX0_numberWith 1 = .ok (.iload_n 1, 1) := by decide +kernel
theorem dX0_numberWith_2 : decode cX0_numberWith 2 = .ok (.iconst 1, 1) := by decide +kernel
theorem dX0_numberWith_3 : decode cX0_numberWith 3 = .ok (.invokevirtual 50, 3) := by decide +kernel
theorem dX0_numberWith_6 : decode cX0_numberWith 6 = .ok (.aload_n 0, 1) := by decide +kernel
theorem dX0_numberWith_7 : decode cX0_numberWith 7 = .ok (.iload_n 1, 1) := by decide +kernel
theorem dX0_numberWith_8 : decode cX0_numberWith 8 = .ok (.iconst 2, 1) := by decide +kernel
theorem dX0_numberWith_9 : decode cX0_numberWith 9 = .ok (.invokevirtual 50, 3) := by decide +kernel
theorem dX0_numberWith_12 : decode cX0_numberWith 12 = .ok (.iadd, 1) := by decide +kernel
theorem dX0_numberWith_13 : decode cX0_numberWith 13 = .ok (.ireturn, 1) := by decide +kernel
set_option maxRecDepth 20000 in
theorem ggX0_stopsOf_X0_waitsFor : GoodIn wsX0_stopsOf wsX0_waitsFor := goodIn_r _ [8, 9, 10, 15, 16, 17, 18, 19, 20, 21, 22, 23] (by decide +kernel) (by decide +kernel)
set_option maxRecDepth 20000 in
theorem gX0_stopsOf_X0_waitsFor : GoodIn wsX0_stopsOf (wsV RX0 54 RX0 yX0_waitsFor wsX0_waitsFor) := goodIn_app (goodIn_of _ (by decide +kernel)) ggX0_stopsOf_X0_waitsFor
set_option maxRecDepth 20000 in
theorem ggX0_stopsOf_X0_rides : GoodIn wsX0_stopsOf wsX0_rides := goodIn_r _ [14, 9, 10, 15, 16, 17, 18, 19, 20, 21, 22, 23] (by decide +kernel) (by decide +kernel)
set_option maxRecDepth 20000 in
theorem gX0_stopsOf_X0_rides : GoodIn wsX0_stopsOf (wsV RX0 58 RX0 yX0_rides wsX0_rides) := goodIn_app (goodIn_of _ (by decide +kernel)) ggX0_stopsOf_X0_rides
theorem dX0_stopsOf_0 : decode cX0_stopsOf 0 = .ok (.iconst 0, 1) := by decide +kernel
theorem dX0_stopsOf_1 : decode cX0_stopsOf 1 = .ok (.istore_n 2, 1) := by decide +kernel
theorem dX0_stopsOf_2 : decode cX0_stopsOf 2 = .ok (.iconst 0, 1) := by decide +kernel
theorem dX0_stopsOf_3 : decode cX0_stopsOf 3 = .ok (.istore_n 3, 1) := by decide +kernel
theorem dX0_stopsOf_4 : decode cX0_stopsOf 4 = .ok (.iload_n 3, 1) := by decide +kernel
theorem dX0_stopsOf_5 : decode cX0_stopsOf 5 = .ok (.aload_n 0, 1) := by decide +kernel
theorem dX0_stopsOf_6 : decode cX0_stopsOf 6 = .ok (.getfield 36, 3) := by decide +kernel
theorem dX0_stopsOf_9 : decode cX0_stopsOf 9 = .ok (.if_icmp .ge 61, 3) := by decide +kernel
theorem dX0_stopsOf_12 : decode cX0_stopsOf 12 = .ok (.aload_n 0, 1) := by decide +kernel
theorem dX0_stopsOf_13 : decode cX0_stopsOf 13 = .ok (.iload_n 3, 1) := by decide +kernel
theorem dX0_stopsOf_14 : decode cX0_stopsOf 14 = .ok (.iload_n 1, 1) := by decide +kernel
theorem dX0_stopsOf_15 : decode cX0_stopsOf 15 = .ok (.invokevirtual 54, 3) := by decide +kernel
theorem dX0_stopsOf_18 : decode cX0_stopsOf 18 = .ok (.ifCond .eq 26, 3) := by decide +kernel
theorem dX0_stopsOf_21 : decode cX0_stopsOf 21 = .ok (.iload_n 2, 1) := by decide +kernel
theorem dX0_stopsOf_22 : decode cX0_stopsOf 22 = .ok (.iconst 1, 1) := by decide +kernel
theorem dX0_stopsOf_23 : decode cX0_stopsOf 23 = .ok (.aload_n 0, 1) := by decide +kernel
theorem dX0_stopsOf_24 : decode cX0_stopsOf 24 = .ok (.getfield 9, 3) := by decide +kernel
theorem dX0_stopsOf_27 : decode cX0_stopsOf 27 = .ok (.iload_n 3, 1) := by decide +kernel
theorem dX0_stopsOf_28 : decode cX0_stopsOf 28 = .ok (.iaload, 1) := by decide +kernel
theorem dX0_stopsOf_29 : decode cX0_stopsOf 29 = .ok (.ishl, 1) := by decide +kernel
theorem dX0_stopsOf_30 : decode cX0_stopsOf 30 = .ok (.iconst 1, 1) := by decide +kernel
theorem dX0_stopsOf_31 : decode cX0_stopsOf 31 = .ok (.aload_n 0, 1) := by decide +kernel
theorem dX0_stopsOf_32 : decode cX0_stopsOf 32 = .ok (.getfield 15, 3) := by decide +kernel
theorem dX0_stopsOf_35 : decode cX0_stopsOf 35 = .ok (.iload_n 3, 1) := by decide +kernel
theorem dX0_stopsOf_36 : decode cX0_stopsOf 36 = .ok (.iaload, 1) := by decide +kernel
theorem dX0_stopsOf_37 : decode cX0_stopsOf 37 = .ok (.ishl, 1) := by decide +kernel
theorem dX0_stopsOf_38 : decode cX0_stopsOf 38 = .ok (.ior, 1) := by decide +kernel
theorem dX0_stopsOf_39 : decode cX0_stopsOf 39 = .ok (.ior, 1) := by decide +kernel
theorem dX0_stopsOf_40 : decode cX0_stopsOf 40 = .ok (.istore_n 2, 1) := by decide +kernel
theorem dX0_stopsOf_41 : decode cX0_stopsOf 41 = .ok (.goto 23, 3) := by decide +kernel
theorem dX0_stopsOf_44 : decode cX0_stopsOf 44 = .ok (.aload_n 0, 1) := by decide +kernel
theorem dX0_stopsOf_45 : decode cX0_stopsOf 45 = .ok (.iload_n 3, 1) := by decide +kernel
theorem dX0_stopsOf_46 : decode cX0_stopsOf 46 = .ok (.iload_n 1, 1) := by decide +kernel
theorem dX0_stopsOf_47 : decode cX0_stopsOf 47 = .ok (.invokevirtual 58, 3) := by decide +kernel
theorem dX0_stopsOf_50 : decode cX0_stopsOf 50 = .ok (.ifCond .eq 14, 3) := by decide +kernel
theorem dX0_stopsOf_53 : decode cX0_stopsOf 53 = .ok (.iload_n 2, 1) := by decide +kernel
theorem dX0_stopsOf_54 : decode cX0_stopsOf 54 = .ok (.iconst 1, 1) := by decide +kernel
theorem dX0_stopsOf_55 : decode cX0_stopsOf 55 = .ok (.aload_n 0, 1) := by decide +kernel
theorem dX0_stopsOf_56 : decode cX0_stopsOf 56 = .ok (.getfield 15, 3) := by decide +kernel
theorem dX0_stopsOf_59 : decode cX0_stopsOf 59 = .ok (.iload_n 3, 1) := by decide +kernel
theorem dX0_stopsOf_60 : decode cX0_stopsOf 60 = .ok (.iaload, 1) := by decide +kernel
theorem dX0_stopsOf_61 : decode cX0_stopsOf 61 = .ok (.ishl, 1) := by decide +kernel
theorem dX0_stopsOf_62 : decode cX0_stopsOf 62 = .ok (.ior, 1) := by decide +kernel
theorem dX0_stopsOf_63 : decode cX0_stopsOf 63 = .ok (.istore_n 2, 1) := by decide +kernel
theorem dX0_stopsOf_64 : decode cX0_stopsOf 64 = .ok (.iinc 3 1, 3) := by decide +kernel
theorem dX0_stopsOf_67 : decode cX0_stopsOf 67 = .ok (.goto (-63), 3) := by decide +kernel
theorem dX0_stopsOf_70 : decode cX0_stopsOf 70 = .ok (.iload_n 2, 1) := by decide +kernel
theorem dX0_stopsOf_71 : decode cX0_stopsOf 71 = .ok (.ireturn, 1) := by decide +kernel
set_option maxRecDepth 20000 in
theorem ggX0_aimOf_X0_rides : GoodIn wsX0_aimOf wsX0_rides := goodIn_r _ [8, 9, 10, 22, 23, 24, 25, 26, 27, 28, 29, 30] (by decide +kernel) (by decide +kernel)
set_option maxRecDepth 20000 in
theorem gX0_aimOf_X0_rides : GoodIn wsX0_aimOf (wsV RX0 58 RX0 yX0_rides wsX0_rides) := goodIn_app (goodIn_of _ (by decide +kernel)) ggX0_aimOf_X0_rides
set_option maxRecDepth 20000 in
theorem ggX0_aimOf_X0_isNearer : GoodIn wsX0_aimOf wsX0_isNearer := goodIn_r _ [13, 14, 15, 16, 17] (by decide +kernel) (by decide +kernel)
set_option maxRecDepth 20000 in
theorem gX0_aimOf_X0_isNearer : GoodIn wsX0_aimOf (va_wsS RX0 61 yX0_isNearer wsX0_isNearer) := goodIn_app (goodIn_of _ (by decide +kernel)) ggX0_aimOf_X0_isNearer
set_option maxRecDepth 20000 in
theorem ggX0_aimOf_X0_waitsFor : GoodIn wsX0_aimOf wsX0_waitsFor := goodIn_r _ [21, 9, 10, 22, 23, 24, 25, 26, 27, 28, 29, 30] (by decide +kernel) (by decide +kernel)
set_option maxRecDepth 20000 in
theorem gX0_aimOf_X0_waitsFor : GoodIn wsX0_aimOf (wsV RX0 54 RX0 yX0_waitsFor wsX0_waitsFor) := goodIn_app (goodIn_of _ (by decide +kernel)) ggX0_aimOf_X0_waitsFor
theorem dX0_aimOf_0 : decode cX0_aimOf 0 = .ok (.bipush (-9), 2) := by decide +kernel
theorem dX0_aimOf_2 : decode cX0_aimOf 2 = .ok (.istore_n 3, 1) := by decide +kernel
theorem dX0_aimOf_3 : decode cX0_aimOf 3 = .ok (.bipush (-9), 2) := by decide +kernel
theorem dX0_aimOf_5 : decode cX0_aimOf 5 = .ok (.istore 4, 2) := by decide +kernel
theorem dX0_aimOf_7 : decode cX0_aimOf 7 = .ok (.iconst 0, 1) := by decide +kernel
theorem dX0_aimOf_8 : decode cX0_aimOf 8 = .ok (.istore 5, 2) := by decide +kernel
theorem dX0_aimOf_10 : decode cX0_aimOf 10 = .ok (.iload 5, 2) := by decide +kernel
theorem dX0_aimOf_12 : decode cX0_aimOf 12 = .ok (.aload_n 0, 1) := by decide +kernel
theorem dX0_aimOf_13 : decode cX0_aimOf 13 = .ok (.getfield 36, 3) := by decide +kernel
theorem dX0_aimOf_16 : decode cX0_aimOf 16 = .ok (.if_icmp .ge 77, 3) := by decide +kernel
theorem dX0_aimOf_19 : decode cX0_aimOf 19 = .ok (.aload_n 0, 1) := by decide +kernel
theorem dX0_aimOf_20 : decode cX0_aimOf 20 = .ok (.iload 5, 2) := by decide +kernel
theorem dX0_aimOf_22 : decode cX0_aimOf 22 = .ok (.iload_n 1, 1) := by decide +kernel
theorem dX0_aimOf_23 : decode cX0_aimOf 23 = .ok (.invokevirtual 58, 3) := by decide +kernel
theorem dX0_aimOf_26 : decode cX0_aimOf 26 = .ok (.ifCond .eq 35, 3) := by decide +kernel
theorem dX0_aimOf_29 : decode cX0_aimOf 29 = .ok (.iload_n 3, 1) := by decide +kernel
theorem dX0_aimOf_30 : decode cX0_aimOf 30 = .ok (.bipush (-9), 2) := by decide +kernel
theorem dX0_aimOf_32 : decode cX0_aimOf 32 = .ok (.if_icmp .eq 18, 3) := by decide +kernel
theorem dX0_aimOf_35 : decode cX0_aimOf 35 = .ok (.aload_n 0, 1) := by decide +kernel
theorem dX0_aimOf_36 : decode cX0_aimOf 36 = .ok (.getfield 15, 3) := by decide +kernel
theorem dX0_aimOf_39 : decode cX0_aimOf 39 = .ok (.iload 5, 2) := by decide +kernel
theorem dX0_aimOf_41 : decode cX0_aimOf 41 = .ok (.iaload, 1) := by decide +kernel
theorem dX0_aimOf_42 : decode cX0_aimOf 42 = .ok (.iload_n 3, 1) := by decide +kernel
theorem dX0_aimOf_43 : decode cX0_aimOf 43 = .ok (.iload_n 2, 1) := by decide +kernel
theorem dX0_aimOf_44 : decode cX0_aimOf 44 = .ok (.invokestatic 61, 3) := by decide +kernel
theorem dX0_aimOf_47 : decode cX0_aimOf 47 = .ok (.ifCond .eq 40, 3) := by decide +kernel
theorem dX0_aimOf_50 : decode cX0_aimOf 50 = .ok (.aload_n 0, 1) := by decide +kernel
theorem dX0_aimOf_51 : decode cX0_aimOf 51 = .ok (.getfield 15, 3) := by decide +kernel
theorem dX0_aimOf_54 : decode cX0_aimOf 54 = .ok (.iload 5, 2) := by decide +kernel
theorem dX0_aimOf_56 : decode cX0_aimOf 56 = .ok (.iaload, 1) := by decide +kernel
theorem dX0_aimOf_57 : decode cX0_aimOf 57 = .ok (.istore_n 3, 1) := by decide +kernel
theorem dX0_aimOf_58 : decode cX0_aimOf 58 = .ok (.goto 29, 3) := by decide +kernel
theorem dX0_aimOf_61 : decode cX0_aimOf 61 = .ok (.iload 4, 2) := by decide +kernel
theorem dX0_aimOf_63 : decode cX0_aimOf 63 = .ok (.bipush (-9), 2) := by decide +kernel
theorem dX0_aimOf_65 : decode cX0_aimOf 65 = .ok (.if_icmp .ne 22, 3) := by decide +kernel
theorem dX0_aimOf_68 : decode cX0_aimOf 68 = .ok (.aload_n 0, 1) := by decide +kernel
theorem dX0_aimOf_69 : decode cX0_aimOf 69 = .ok (.iload 5, 2) := by decide +kernel
theorem dX0_aimOf_71 : decode cX0_aimOf 71 = .ok (.iload_n 1, 1) := by decide +kernel
theorem dX0_aimOf_72 : decode cX0_aimOf 72 = .ok (.invokevirtual 54, 3) := by decide +kernel
theorem dX0_aimOf_75 : decode cX0_aimOf 75 = .ok (.ifCond .eq 12, 3) := by decide +kernel
theorem dX0_aimOf_78 : decode cX0_aimOf 78 = .ok (.aload_n 0, 1) := by decide +kernel
theorem dX0_aimOf_79 : decode cX0_aimOf 79 = .ok (.getfield 9, 3) := by decide +kernel
theorem dX0_aimOf_82 : decode cX0_aimOf 82 = .ok (.iload 5, 2) := by decide +kernel
theorem dX0_aimOf_84 : decode cX0_aimOf 84 = .ok (.iaload, 1) := by decide +kernel
theorem dX0_aimOf_85 : decode cX0_aimOf 85 = .ok (.istore 4, 2) := by decide +kernel
theorem dX0_aimOf_87 : decode cX0_aimOf 87 = .ok (.iinc 5 1, 3) := by decide +kernel
theorem dX0_aimOf_90 : decode cX0_aimOf 90 = .ok (.goto (-80), 3) := by decide +kernel
theorem dX0_aimOf_93 : decode cX0_aimOf 93 = .ok (.iload_n 3, 1) := by decide +kernel
theorem dX0_aimOf_94 : decode cX0_aimOf 94 = .ok (.bipush (-9), 2) := by decide +kernel
theorem dX0_aimOf_96 : decode cX0_aimOf 96 = .ok (.if_icmp .eq 7, 3) := by decide +kernel
theorem dX0_aimOf_99 : decode cX0_aimOf 99 = .ok (.iload_n 3, 1) := by decide +kernel
theorem dX0_aimOf_100 : decode cX0_aimOf 100 = .ok (.goto 5, 3) := by decide +kernel
theorem dX0_aimOf_103 : decode cX0_aimOf 103 = .ok (.iload 4, 2) := by decide +kernel
theorem dX0_aimOf_105 : decode cX0_aimOf 105 = .ok (.ireturn, 1) := by decide +kernel
theorem dX0_isNearer_0 : decode cX0_isNearer 0 = .ok (.iload_n 0, 1) := by decide +kernel
theorem dX0_isNearer_1 : decode cX0_isNearer 1 = .ok (.iload_n 2, 1) := by decide +kernel
theorem dX0_isNearer_2 : decode cX0_isNearer 2 = .ok (.isub, 1) := by decide +kernel
theorem dX0_isNearer_3 : decode cX0_isNearer 3 = .ok (.invokestatic 65, 3) := by decide +kernel
theorem dX0_isNearer_6 : decode cX0_isNearer 6 = .ok (.istore_n 3, 1) := by decide +kernel
theorem dX0_isNearer_7 : decode cX0_isNearer 7 = .ok (.iload_n 1, 1) := by decide +kernel
theorem dX0_isNearer_8 : decode cX0_isNearer 8 = .ok (.iload_n 2, 1) := by decide +kernel
theorem dX0_isNearer_9 : decode cX0_isNearer 9 = .ok (.isub, 1) := by decide +kernel
theorem dX0_isNearer_10 : decode cX0_isNearer 10 = .ok (.invokestatic 65, 3) := by decide +kernel
theorem dX0_isNearer_13 : decode cX0_isNearer 13 = .ok (.istore 4, 2) := by decide +kernel
theorem dX0_isNearer_15 : decode cX0_isNearer 15 = .ok (.iload_n 3, 1) := by decide +kernel
theorem dX0_isNearer_16 : decode cX0_isNearer 16 = .ok (.iload 4, 2) := by decide +kernel
theorem dX0_isNearer_18 : decode cX0_isNearer 18 = .ok (.if_icmp .lt 14, 3) := by decide +kernel
theorem dX0_isNearer_21 : decode cX0_isNearer 21 = .ok (.iload_n 3, 1) := by decide +kernel
theorem dX0_isNearer_22 : decode cX0_isNearer 22 = .ok (.iload 4, 2) := by decide +kernel
theorem dX0_isNearer_24 : decode cX0_isNearer 24 = .ok (.if_icmp .ne 12, 3) := by decide +kernel
theorem dX0_isNearer_27 : decode cX0_isNearer 27 = .ok (.iload_n 0, 1) := by decide +kernel
theorem dX0_isNearer_28 : decode cX0_isNearer 28 = .ok (.iload_n 1, 1) := by decide +kernel
theorem dX0_isNearer_29 : decode cX0_isNearer 29 = .ok (.if_icmp .ge 7, 3) := by decide +kernel
theorem dX0_isNearer_32 : decode cX0_isNearer 32 = .ok (.iconst 1, 1) := by decide +kernel
theorem dX0_isNearer_33 : decode cX0_isNearer 33 = .ok (.goto 4, 3) := by decide +kernel
theorem dX0_isNearer_36 : decode cX0_isNearer 36 = .ok (.iconst 0, 1) := by decide +kernel
theorem dX0_isNearer_37 : decode cX0_isNearer 37 = .ok (.ireturn, 1) := by decide +kernel
set_option maxRecDepth 20000 in
theorem ggX0_letOut_X0_rides : GoodIn wsX0_letOut wsX0_rides := goodIn_r _ [9, 3, 10, 11, 12, 13, 14, 15, 16, 17, 18, 19] (by decide +kernel) (by decide +kernel)
set_option maxRecDepth 20000 in
theorem gX0_letOut_X0_rides : GoodIn wsX0_letOut (wsV RX0 58 RX0 yX0_rides wsX0_rides) := goodIn_app (goodIn_of _ (by decide +kernel)) ggX0_letOut_X0_rides
theorem dX0_letOut_0 : decode cX0_letOut 0 = .ok (.iconst 0, 1) := by decide +kernel
theorem dX0_letOut_1 : decode cX0_letOut 1 = .ok (.istore 4, 2) := by decide +kernel
theorem dX0_letOut_3 : decode cX0_letOut 3 = .ok (.iconst 0, 1) := by decide +kernel
theorem dX0_letOut_4 : decode cX0_letOut 4 = .ok (.istore 5, 2) := by decide +kernel
theorem dX0_letOut_6 : decode cX0_letOut 6 = .ok (.iload 5, 2) := by decide +kernel
theorem dX0_letOut_8 : decode cX0_letOut 8 = .ok (.aload_n 0, 1) := by decide +kernel
theorem dX0_letOut_9 : decode cX0_letOut 9 = .ok (.getfield 36, 3) := by decide +kernel
theorem dX0_letOut_12 : decode cX0_letOut 12 = .ok (.if_icmp .ge 49, 3) := by decide +kernel
theorem dX0_letOut_15 : decode cX0_letOut 15 = .ok (.aload_n 0, 1) := by decide +kernel
theorem dX0_letOut_16 : decode cX0_letOut 16 = .ok (.iload 5, 2) := by decide +kernel
theorem dX0_letOut_18 : decode cX0_letOut 18 = .ok (.iload_n 1, 1) := by decide +kernel
theorem dX0_letOut_19 : decode cX0_letOut 19 = .ok (.invokevirtual 58, 3) := by decide +kernel
theorem dX0_letOut_22 : decode cX0_letOut 22 = .ok (.ifCond .eq 33, 3) := by decide +kernel
theorem dX0_letOut_25 : decode cX0_letOut 25 = .ok (.aload_n 0, 1) := by decide +kernel
theorem dX0_letOut_26 : decode cX0_letOut 26 = .ok (.getfield 15, 3) := by decide +kernel
theorem dX0_letOut_29 : decode cX0_letOut 29 = .ok (.iload 5, 2) := by decide +kernel
theorem dX0_letOut_31 : decode cX0_letOut 31 = .ok (.iaload, 1) := by decide +kernel
theorem dX0_letOut_32 : decode cX0_letOut 32 = .ok (.iload_n 2, 1) := by decide +kernel
theorem dX0_letOut_33 : decode cX0_letOut 33 = .ok (.if_icmp .ne 22, 3) := by decide +kernel
theorem dX0_letOut_36 : decode cX0_letOut 36 = .ok (.aload_n 0, 1) := by decide +kernel
theorem dX0_letOut_37 : decode cX0_letOut 37 = .ok (.getfield 18, 3) := by decide +kernel
theorem dX0_letOut_40 : decode cX0_letOut 40 = .ok (.iload 5, 2) := by decide +kernel
theorem dX0_letOut_42 : decode cX0_letOut 42 = .ok (.iconst 3, 1) := by decide +kernel
theorem dX0_letOut_43 : decode cX0_letOut 43 = .ok (.iastore, 1) := by decide +kernel
theorem dX0_letOut_44 : decode cX0_letOut 44 = .ok (.aload_n 0, 1) := by decide +kernel
theorem dX0_letOut_45 : decode cX0_letOut 45 = .ok (.getfield 30, 3) := by decide +kernel
theorem dX0_letOut_48 : decode cX0_letOut 48 = .ok (.iload 5, 2) := by decide +kernel
theorem dX0_letOut_50 : decode cX0_letOut 50 = .ok (.iload_n 3, 1) := by decide +kernel
theorem dX0_letOut_51 : decode cX0_letOut 51 = .ok (.iastore, 1) := by decide +kernel
theorem dX0_letOut_52 : decode cX0_letOut 52 = .ok (.iinc 4 1, 3) := by decide +kernel
theorem dX0_letOut_55 : decode cX0_letOut 55 = .ok (.iinc 5 1, 3) := by decide +kernel
theorem dX0_letOut_58 : decode cX0_letOut 58 = .ok (.goto (-52), 3) := by decide +kernel
theorem dX0_letOut_61 : decode cX0_letOut 61 = .ok (.iload 4, 2) := by decide +kernel
theorem dX0_letOut_63 : decode cX0_letOut 63 = .ok (.ireturn, 1) := by decide +kernel
set_option maxRecDepth 20000 in
theorem ggX0_takeIn_X0_numberOf : GoodIn wsX0_takeIn wsX0_numberOf := goodIn_r _ [9, 1, 3, 10, 15, 16, 17, 18, 19, 20, 21, 22, 23] (by decide +kernel) (by decide +kernel)
set_option maxRecDepth 20000 in
theorem gX0_takeIn_X0_numberOf : GoodIn wsX0_takeIn (wsV RX0 50 RX0 yX0_numberOf wsX0_numberOf) := goodIn_app (goodIn_of _ (by decide +kernel)) ggX0_takeIn_X0_numberOf
set_option maxRecDepth 20000 in
theorem ggX0_takeIn_X0_waitsFor : GoodIn wsX0_takeIn wsX0_waitsFor := goodIn_r _ [14, 3, 10, 15, 16, 17, 18, 19, 20, 21, 22, 23] (by decide +kernel) (by decide +kernel)
set_option maxRecDepth 20000 in
theorem gX0_takeIn_X0_waitsFor : GoodIn wsX0_takeIn (wsV RX0 54 RX0 yX0_waitsFor wsX0_waitsFor) := goodIn_app (goodIn_of _ (by decide +kernel)) ggX0_takeIn_X0_waitsFor
theorem dX0_takeIn_0 : decode cX0_takeIn 0 = .ok (.iload_n 3, 1) := by decide +kernel
theorem dX0_takeIn_1 : decode cX0_takeIn 1 = .ok (.aload_n 0, 1) := by decide +kernel
theorem dX0_takeIn_2 : decode cX0_takeIn 2 = .ok (.iload_n 1, 1) := by decide +kernel
theorem dX0_takeIn_3 : decode cX0_takeIn 3 = .ok (.iconst 2, 1) := by decide +kernel
theorem dX0_takeIn_4 : decode cX0_takeIn 4 = .ok (.invokevirtual 50, 3) := by decide +kernel
theorem dX0_takeIn_7 : decode cX0_takeIn 7 = .ok (.isub, 1) := by decide +kernel
theorem dX0_takeIn_8 : decode cX0_takeIn 8 = .ok (.istore 5, 2) := by decide +kernel
theorem dX0_takeIn_10 : decode cX0_takeIn 10 = .ok (.iconst 0, 1) := by decide +kernel
theorem dX0_takeIn_11 : decode cX0_takeIn 11 = .ok (.istore 6, 2) := by decide +kernel
theorem dX0_takeIn_13 : decode cX0_takeIn 13 = .ok (.iconst 0, 1) := by decide +kernel
theorem dX0_takeIn_14 : decode cX0_takeIn 14 = .ok (.istore 7, 2) := by decide +kernel
theorem dX0_takeIn_16 : decode cX0_takeIn 16 = .ok (.iload 7, 2) := by decide +kernel
theorem dX0_takeIn_18 : decode cX0_takeIn 18 = .ok (.aload_n 0, 1) := by decide +kernel
theorem dX0_takeIn_19 : decode cX0_takeIn 19 = .ok (.getfield 36, 3) := by decide +kernel
theorem dX0_takeIn_22 : decode cX0_takeIn 22 = .ok (.if_icmp .ge 57, 3) := by decide +kernel
theorem dX0_takeIn_25 : decode cX0_takeIn 25 = .ok (.iload 6, 2) := by decide +kernel
theorem dX0_takeIn_27 : decode cX0_takeIn 27 = .ok (.iload 5, 2) := by decide +kernel
theorem dX0_takeIn_29 : decode cX0_takeIn 29 = .ok (.if_icmp .ge 50, 3) := by decide +kernel
theorem dX0_takeIn_32 : decode cX0_takeIn 32 = .ok (.aload_n 0, 1) := by decide +kernel
theorem dX0_takeIn_33 : decode cX0_takeIn 33 = .ok (.iload 7, 2) := by decide +kernel
theorem dX0_takeIn_35 : decode cX0_takeIn 35 = .ok (.iload_n 1, 1) := by decide +kernel
theorem dX0_takeIn_36 : decode cX0_takeIn 36 = .ok (.invokevirtual 54, 3) := by decide +kernel
theorem dX0_takeIn_39 : decode cX0_takeIn 39 = .ok (.ifCond .eq 34, 3) := by decide +kernel
theorem dX0_takeIn_42 : decode cX0_takeIn 42 = .ok (.aload_n 0, 1) := by decide +kernel
theorem dX0_takeIn_43 : decode cX0_takeIn 43 = .ok (.getfield 9, 3) := by decide +kernel
theorem dX0_takeIn_46 : decode cX0_takeIn 46 = .ok (.iload 7, 2) := by decide +kernel
theorem dX0_takeIn_48 : decode cX0_takeIn 48 = .ok (.iaload, 1) := by decide +kernel
theorem dX0_takeIn_49 : decode cX0_takeIn 49 = .ok (.iload_n 2, 1) := by decide +kernel
theorem dX0_takeIn_50 : decode cX0_takeIn 50 = .ok (.if_icmp .ne 23, 3) := by decide +kernel
theorem dX0_takeIn_53 : decode cX0_takeIn 53 = .ok (.aload_n 0, 1) := by decide +kernel
theorem dX0_takeIn_54 : decode cX0_takeIn 54 = .ok (.getfield 18, 3) := by decide +kernel
theorem dX0_takeIn_57 : decode cX0_takeIn 57 = .ok (.iload 7, 2) := by decide +kernel
theorem dX0_takeIn_59 : decode cX0_takeIn 59 = .ok (.iconst 2, 1) := by decide +kernel
theorem dX0_takeIn_60 : decode cX0_takeIn 60 = .ok (.iastore, 1) := by decide +kernel
theorem dX0_takeIn_61 : decode cX0_takeIn 61 = .ok (.aload_n 0, 1) := by decide +kernel
theorem dX0_takeIn_62 : decode cX0_takeIn 62 = .ok (.getfield 27, 3) := by decide +kernel
theorem dX0_takeIn_65 : decode cX0_takeIn 65 = .ok (.iload 7, 2) := by decide +kernel
theorem dX0_takeIn_67 : decode cX0_takeIn 67 = .ok (.iload 4, 2) := by decide +kernel
theorem dX0_takeIn_69 : decode cX0_takeIn 69 = .ok (.iastore, 1) := by decide +kernel
theorem dX0_takeIn_70 : decode cX0_takeIn 70 = .ok (.iinc 6 1, 3) := by decide +kernel
theorem dX0_takeIn_73 : decode cX0_takeIn 73 = .ok (.iinc 7 1, 3) := by decide +kernel
theorem dX0_takeIn_76 : decode cX0_takeIn 76 = .ok (.goto (-60), 3) := by decide +kernel
theorem dX0_takeIn_79 : decode cX0_takeIn 79 = .ok (.iload 6, 2) := by decide +kernel
theorem dX0_takeIn_81 : decode cX0_takeIn 81 = .ok (.ireturn, 1) := by decide +kernel
set_option maxRecDepth 20000 in
theorem ggX0_loseCar_X0_rides : GoodIn wsX0_loseCar wsX0_rides := goodIn_r _ [11, 4, 6, 16, 17, 18, 19, 20, 21, 22, 23, 24] (by decide +kernel) (by decide +kernel)
set_option maxRecDepth 20000 in
theorem gX0_loseCar_X0_rides : GoodIn wsX0_loseCar (wsV RX0 58 RX0 yX0_rides wsX0_rides) := goodIn_app (goodIn_of _ (by decide +kernel)) ggX0_loseCar_X0_rides
set_option maxRecDepth 20000 in
theorem ggX0_loseCar_X0_waitsFor : GoodIn wsX0_loseCar wsX0_waitsFor := goodIn_r _ [15, 4, 6, 16, 17, 18, 19, 20, 21, 22, 23, 24] (by decide +kernel) (by decide +kernel)
set_option maxRecDepth 20000 in
theorem gX0_loseCar_X0_waitsFor : GoodIn wsX0_loseCar (wsV RX0 54 RX0 yX0_waitsFor wsX0_waitsFor) := goodIn_app (goodIn_of _ (by decide +kernel)) ggX0_loseCar_X0_waitsFor
theorem dX0_loseCar_0 : decode cX0_loseCar 0 = .ok (.iconst 0, 1) := by decide +kernel
theorem dX0_loseCar_1 : decode cX0_loseCar 1 = .ok (.istore 4, 2) := by decide +kernel
theorem dX0_loseCar_3 : decode cX0_loseCar 3 = .ok (.iload 4, 2) := by decide +kernel
theorem dX0_loseCar_5 : decode cX0_loseCar 5 = .ok (.aload_n 0, 1) := by decide +kernel
theorem dX0_loseCar_6 : decode cX0_loseCar 6 = .ok (.getfield 36, 3) := by decide +kernel
theorem dX0_loseCar_9 : decode cX0_loseCar 9 = .ok (.if_icmp .ge 101, 3) := by decide +kernel
theorem dX0_loseCar_12 : decode cX0_loseCar 12 = .ok (.aload_n 0, 1) := by decide +kernel
theorem dX0_loseCar_13 : decode cX0_loseCar 13 = .ok (.iload 4, 2) := by decide +kernel
theorem dX0_loseCar_15 : decode cX0_loseCar 15 = .ok (.iload_n 1, 1) := by decide +kernel
theorem dX0_loseCar_16 : decode cX0_loseCar 16 = .ok (.invokevirtual 58, 3) := by decide +kernel
theorem dX0_loseCar_19 : decode cX0_loseCar 19 = .ok (.istore 5, 2) := by decide +kernel
theorem dX0_loseCar_21 : decode cX0_loseCar 21 = .ok (.iload 5, 2) := by decide +kernel
theorem dX0_loseCar_23 : decode cX0_loseCar 23 = .ok (.ifCond .ne 16, 3) := by decide +kernel
theorem dX0_loseCar_26 : decode cX0_loseCar 26 = .ok (.aload_n 0, 1) := by decide +kernel
theorem dX0_loseCar_27 : decode cX0_loseCar 27 = .ok (.iload 4, 2) := by decide +kernel
theorem dX0_loseCar_29 : decode cX0_loseCar 29 = .ok (.iload_n 1, 1) := by decide +kernel
theorem dX0_loseCar_30 : decode cX0_loseCar 30 = .ok (.invokevirtual 54, 3) := by decide +kernel
theorem dX0_loseCar_33 : decode cX0_loseCar 33 = .ok (.ifCond .ne 6, 3) := by decide +kernel
theorem dX0_loseCar_36 : decode cX0_loseCar 36 = .ok (.goto 68, 3) := by decide +kernel
theorem dX0_loseCar_39 : decode cX0_loseCar 39 = .ok (.iload 5, 2) := by decide +kernel
theorem dX0_loseCar_41 : decode cX0_loseCar 41 = .ok (.ifCond .eq 11, 3) := by decide +kernel
theorem dX0_loseCar_44 : decode cX0_loseCar 44 = .ok (.aload_n 0, 1) := by decide +kernel
theorem dX0_loseCar_45 : decode cX0_loseCar 45 = .ok (.getfield 9, 3) := by decide +kernel
theorem dX0_loseCar_48 : decode cX0_loseCar 48 = .ok (.iload 4, 2) := by decide +kernel
theorem dX0_loseCar_50 : decode cX0_loseCar 50 = .ok (.iload_n 2, 1) := by decide +kernel
theorem dX0_loseCar_51 : decode cX0_loseCar 51 = .ok (.iastore, 1) := by decide +kernel
theorem dX0_loseCar_52 : decode cX0_loseCar 52 = .ok (.iload 5, 2) := by decide +kernel
theorem dX0_loseCar_54 : decode cX0_loseCar 54 = .ok (.ifCond .eq 33, 3) := by decide +kernel
theorem dX0_loseCar_57 : decode cX0_loseCar 57 = .ok (.aload_n 0, 1) := by decide +kernel
theorem dX0_loseCar_58 : decode cX0_loseCar 58 = .ok (.getfield 15, 3) := by decide +kernel
theorem dX0_loseCar_61 : decode cX0_loseCar 61 = .ok (.iload 4, 2) := by decide +kernel
theorem dX0_loseCar_63 : decode cX0_loseCar 63 = .ok (.iaload, 1) := by decide +kernel
theorem dX0_loseCar_64 : decode cX0_loseCar 64 = .ok (.iload_n 2, 1) := by decide +kernel
theorem dX0_loseCar_65 : decode cX0_loseCar 65 = .ok (.if_icmp .ne 22, 3) := by decide +kernel
theorem dX0_loseCar_68 : decode cX0_loseCar 68 = .ok (.aload_n 0, 1) := by decide +kernel
theorem dX0_loseCar_69 : decode cX0_loseCar 69 = .ok (.getfield 18, 3) := by decide +kernel
theorem dX0_loseCar_72 : decode cX0_loseCar 72 = .ok (.iload 4, 2) := by decide +kernel
theorem dX0_loseCar_74 : decode cX0_loseCar 74 = .ok (.iconst 3, 1) := by decide +kernel
theorem dX0_loseCar_75 : decode cX0_loseCar 75 = .ok (.iastore, 1) := by decide +kernel
theorem dX0_loseCar_76 : decode cX0_loseCar 76 = .ok (.aload_n 0, 1) := by decide +kernel
theorem dX0_loseCar_77 : decode cX0_loseCar 77 = .ok (.getfield 30, 3) := by decide +kernel
theorem dX0_loseCar_80 : decode cX0_loseCar 80 = .ok (.iload 4, 2) := by decide +kernel
theorem dX0_loseCar_82 : decode cX0_loseCar 82 = .ok (.iload_n 3, 1) := by decide +kernel
theorem dX0_loseCar_83 : decode cX0_loseCar 83 = .ok (.iastore, 1) := by decide +kernel
theorem dX0_loseCar_84 : decode cX0_loseCar 84 = .ok (.goto 20, 3) := by decide +kernel
theorem dX0_loseCar_87 : decode cX0_loseCar 87 = .ok (.aload_n 0, 1) := by decide +kernel
theorem dX0_loseCar_88 : decode cX0_loseCar 88 = .ok (.getfield 18, 3) := by decide +kernel
theorem dX0_loseCar_91 : decode cX0_loseCar 91 = .ok (.iload 4, 2) := by decide +kernel
theorem dX0_loseCar_93 : decode cX0_loseCar 93 = .ok (.iconst 0, 1) := by decide +kernel
theorem dX0_loseCar_94 : decode cX0_loseCar 94 = .ok (.iastore, 1) := by decide +kernel
theorem dX0_loseCar_95 : decode cX0_loseCar 95 = .ok (.aload_n 0, 1) := by decide +kernel
theorem dX0_loseCar_96 : decode cX0_loseCar 96 = .ok (.getfield 21, 3) := by decide +kernel
theorem dX0_loseCar_99 : decode cX0_loseCar 99 = .ok (.iload 4, 2) := by decide +kernel
theorem dX0_loseCar_101 : decode cX0_loseCar 101 = .ok (.bipush (-9), 2) := by decide +kernel
theorem dX0_loseCar_103 : decode cX0_loseCar 103 = .ok (.iastore, 1) := by decide +kernel
theorem dX0_loseCar_104 : decode cX0_loseCar 104 = .ok (.iinc 4 1, 3) := by decide +kernel
theorem dX0_loseCar_107 : decode cX0_loseCar 107 = .ok (.goto (-104), 3) := by decide +kernel
theorem dX0_loseCar_110 : decode cX0_loseCar 110 = .ok (.return_, 1) := by decide +kernel
theorem dX0_waitOf_0 : decode cX0_waitOf 0 = .ok (.aload_n 0, 1) := by decide +kernel
theorem dX0_waitOf_1 : decode cX0_waitOf 1 = .ok (.getfield 18, 3) := by decide +kernel
theorem dX0_waitOf_4 : decode cX0_waitOf 4 = .ok (.iload_n 1, 1) := by decide +kernel
theorem dX0_waitOf_5 : decode cX0_waitOf 5 = .ok (.iaload, 1) := by decide +kernel
theorem dX0_waitOf_6 : decode cX0_waitOf 6 = .ok (.iconst 2, 1) := by decide +kernel
theorem dX0_waitOf_7 : decode cX0_waitOf 7 = .ok (.if_icmp .eq 13, 3) := by decide +kernel
theorem dX0_waitOf_10 : decode cX0_waitOf 10 = .ok (.aload_n 0, 1) := by decide +kernel
theorem dX0_waitOf_11 : decode cX0_waitOf 11 = .ok (.getfield 18, 3) := by decide +kernel
theorem dX0_waitOf_14 : decode cX0_waitOf 14 = .ok (.iload_n 1, 1) := by decide +kernel
theorem dX0_waitOf_15 : decode cX0_waitOf 15 = .ok (.iaload, 1) := by decide +kernel
theorem dX0_waitOf_16 : decode cX0_waitOf 16 = .ok (.iconst 3, 1) := by decide +kernel
theorem dX0_waitOf_17 : decode cX0_waitOf 17 = .ok (.if_icmp .ne 7, 3) := by decide +kernel
theorem dX0_waitOf_20 : decode cX0_waitOf 20 = .ok (.iconst 1, 1) := by decide +kernel
theorem dX0_waitOf_21 : decode cX0_waitOf 21 = .ok (.goto 4, 3) := by decide +kernel
theorem dX0_waitOf_24 : decode cX0_waitOf 24 = .ok (.iconst 0, 1) := by decide +kernel
theorem dX0_waitOf_25 : decode cX0_waitOf 25 = .ok (.istore_n 3, 1) := by decide +kernel
theorem dX0_waitOf_26 : decode cX0_waitOf 26 = .ok (.iload_n 3, 1) := by decide +kernel
theorem dX0_waitOf_27 : decode cX0_waitOf 27 = .ok (.ifCond .eq 12, 3) := by decide +kernel
theorem dX0_waitOf_30 : decode cX0_waitOf 30 = .ok (.aload_n 0, 1) := by decide +kernel
theorem dX0_waitOf_31 : decode cX0_waitOf 31 = .ok (.getfield 27, 3) := by decide +kernel
theorem dX0_waitOf_34 : decode cX0_waitOf 34 = .ok (.iload_n 1, 1) := by decide +kernel
theorem dX0_waitOf_35 : decode cX0_waitOf 35 = .ok (.iaload, 1) := by decide +kernel
theorem dX0_waitOf_36 : decode cX0_waitOf 36 = .ok (.goto 4, 3) := by decide +kernel
theorem dX0_waitOf_39 : decode cX0_waitOf 39 = .ok (.iload_n 2, 1) := by decide +kernel
theorem dX0_waitOf_40 : decode cX0_waitOf 40 = .ok (.aload_n 0, 1) := by decide +kernel
theorem dX0_waitOf_41 : decode cX0_waitOf 41 = .ok (.getfield 24, 3) := by decide +kernel
theorem dX0_waitOf_44 : decode cX0_waitOf 44 = .ok (.iload_n 1, 1) := by decide +kernel
theorem dX0_waitOf_45 : decode cX0_waitOf 45 = .ok (.iaload, 1) := by decide +kernel
theorem dX0_waitOf_46 : decode cX0_waitOf 46 = .ok (.isub, 1) := by decide +kernel
theorem dX0_waitOf_47 : decode cX0_waitOf 47 = .ok (.ireturn, 1) := by decide +kernel
theorem dX0_isInGroup_0 : decode cX0_isInGroup 0 = .ok (.aload_n 0, 1) := by decide +kernel
theorem dX0_isInGroup_1 : decode cX0_isInGroup 1 = .ok (.getfield 18, 3) := by decide +kernel
theorem dX0_isInGroup_4 : decode cX0_isInGroup 4 = .ok (.iload_n 1, 1) := by decide +kernel
theorem dX0_isInGroup_5 : decode cX0_isInGroup 5 = .ok (.iaload, 1) := by decide +kernel
theorem dX0_isInGroup_6 : decode cX0_isInGroup 6 = .ok (.ifCond .eq 13, 3) := by decide +kernel
theorem dX0_isInGroup_9 : decode cX0_isInGroup 9 = .ok (.aload_n 0, 1) := by decide +kernel
theorem dX0_isInGroup_10 : decode cX0_isInGroup 10 = .ok (.getfield 18, 3) := by decide +kernel
theorem dX0_isInGroup_13 : decode cX0_isInGroup 13 = .ok (.iload_n 1, 1) := by decide +kernel
theorem dX0_isInGroup_14 : decode cX0_isInGroup 14 = .ok (.iaload, 1) := by decide +kernel
theorem dX0_isInGroup_15 : decode cX0_isInGroup 15 = .ok (.iconst 1, 1) := by decide +kernel
theorem dX0_isInGroup_16 : decode cX0_isInGroup 16 = .ok (.if_icmp .ne 7, 3) := by decide +kernel
theorem dX0_isInGroup_19 : decode cX0_isInGroup 19 = .ok (.iconst 1, 1) := by decide +kernel
theorem dX0_isInGroup_20 : decode cX0_isInGroup 20 = .ok (.goto 4, 3) := by decide +kernel
theorem dX0_isInGroup_23 : decode cX0_isInGroup 23 = .ok (.iconst 0, 1) := by decide +kernel
theorem dX0_isInGroup_24 : decode cX0_isInGroup 24 = .ok (.ireturn, 1) := by decide +kernel
set_option maxRecDepth 20000 in
theorem ggX0_sameGroup_X0_isInGroup : GoodIn wsX0_sameGroup wsX0_isInGroup := goodIn_r _ [7, 8, 9, 10, 11, 12, 13, 14, 15, 16, 17] (by decide +kernel) (by decide +kernel)
set_option maxRecDepth 20000 in
theorem gX0_sameGroup_X0_isInGroup : GoodIn wsX0_sameGroup (wsV RX0 71 RX0 yX0_isInGroup wsX0_isInGroup) := goodIn_app (goodIn_of _ (by decide +kernel)) ggX0_sameGroup_X0_isInGroup
theorem dX0_sameGroup_0 : decode cX0_sameGroup 0 = .ok (.aload_n 0, 1) := by decide +kernel
theorem dX0_sameGroup_1 : decode cX0_sameGroup 1 = .ok (.iload_n 1, 1) := by decide +kernel
theorem dX0_sameGroup_2 : decode cX0_sameGroup 2 = .ok (.invokevirtual 71, 3) := by decide +kernel
theorem dX0_sameGroup_5 : decode cX0_sameGroup 5 = .ok (.ifCond .eq 45, 3) := by decide +kernel
theorem dX0_sameGroup_8 : decode cX0_sameGroup 8 = .ok (.aload_n 0, 1) := by decide +kernel
theorem dX0_sameGroup_9 : decode cX0_sameGroup 9 = .ok (.iload_n 2, 1) := by decide +kernel
theorem dX0_sameGroup_10 : decode cX0_sameGroup 10 = .ok (.invokevirtual 71, 3) := by decide +kernel
theorem dX0_sameGroup_13 : decode cX0_sameGroup 13 = .ok (.ifCond .eq 37, 3) := by decide +kernel
theorem dX0_sameGroup_16 : decode cX0_sameGroup 16 = .ok (.aload_n 0, 1) := by decide +kernel
theorem dX0_sameGroup_17 : decode cX0_sameGroup 17 = .ok (.getfield 9, 3) := by decide +kernel
theorem dX0_sameGroup_20 : decode cX0_sameGroup 20 = .ok (.iload_n 1, 1) := by decide +kernel
theorem dX0_sameGroup_21 : decode cX0_sameGroup 21 = .ok (.iaload, 1) := by decide +kernel
theorem dX0_sameGroup_22 : decode cX0_sameGroup 22 = .ok (.aload_n 0, 1) := by decide +kernel
theorem dX0_sameGroup_23 : decode cX0_sameGroup 23 = .ok (.getfield 9, 3) := by decide +kernel
theorem dX0_sameGroup_26 : decode cX0_sameGroup 26 = .ok (.iload_n 2, 1) := by decide +kernel
theorem dX0_sameGroup_27 : decode cX0_sameGroup 27 = .ok (.iaload, 1) := by decide +kernel
theorem dX0_sameGroup_28 : decode cX0_sameGroup 28 = .ok (.if_icmp .ne 22, 3) := by decide +kernel
theorem dX0_sameGroup_31 : decode cX0_sameGroup 31 = .ok (.aload_n 0, 1) := by decide +kernel
theorem dX0_sameGroup_32 : decode cX0_sameGroup 32 = .ok (.getfield 15, 3) := by decide +kernel
theorem dX0_sameGroup_35 : decode cX0_sameGroup 35 = .ok (.iload_n 1, 1) := by decide +kernel
theorem dX0_sameGroup_36 : decode cX0_sameGroup 36 = .ok (.iaload, 1) := by decide +kernel
theorem dX0_sameGroup_37 : decode cX0_sameGroup 37 = .ok (.aload_n 0, 1) := by decide +kernel
theorem dX0_sameGroup_38 : decode cX0_sameGroup 38 = .ok (.getfield 15, 3) := by decide +kernel
theorem dX0_sameGroup_41 : decode cX0_sameGroup 41 = .ok (.iload_n 2, 1) := by decide +kernel
theorem dX0_sameGroup_42 : decode cX0_sameGroup 42 = .ok (.iaload, 1) := by decide +kernel
theorem dX0_sameGroup_43 : decode cX0_sameGroup 43 = .ok (.if_icmp .ne 7, 3) := by decide +kernel
theorem dX0_sameGroup_46 : decode cX0_sameGroup 46 = .ok (.iconst 1, 1) := by decide +kernel
theorem dX0_sameGroup_47 : decode cX0_sameGroup 47 = .ok (.goto 4, 3) := by decide +kernel
theorem dX0_sameGroup_50 : decode cX0_sameGroup 50 = .ok (.iconst 0, 1) := by decide +kernel
theorem dX0_sameGroup_51 : decode cX0_sameGroup 51 = .ok (.ireturn, 1) := by decide +kernel
set_option maxRecDepth 20000 in
theorem ggX0_isFirstOfGroup_X0_sameGroup : GoodIn wsX0_isFirstOfGroup wsX0_sameGroup := goodIn_r _ [5, 6, 7, 8, 9, 10, 4, 11, 12, 13, 14, 15, 16, 17, 18, 19, 20, 21] (by decide +kernel) (by decide +kernel)
set_option maxRecDepth 20000 in
theorem gX0_isFirstOfGroup_X0_sameGroup : GoodIn wsX0_isFirstOfGroup (wsV RX0 74 RX0 yX0_sameGroup wsX0_sameGroup) := goodIn_app (goodIn_of _ (by decide +kernel)) ggX0_isFirstOfGroup_X0_sameGroup
set_option maxRecDepth 20000 in
theorem ggX0_isFirstOfGroup_X0_isInGroup : GoodIn wsX0_isFirstOfGroup wsX0_isInGroup := goodIn_r _ [11, 12, 13, 14, 15, 16, 17, 18, 19, 20, 21] (by decide +kernel) (by decide +kernel)
set_option maxRecDepth 20000 in
theorem gX0_isFirstOfGroup_X0_isInGroup : GoodIn wsX0_isFirstOfGroup (wsV RX0 71 RX0 yX0_isInGroup wsX0_isInGroup) := goodIn_app (goodIn_of _ (by decide +kernel)) ggX0_isFirstOfGroup_X0_isInGroup
theorem dX0_isFirstOfGroup_0 : decode cX0_isFirstOfGroup 0 = .ok (.iconst 0, 1) := by decide +kernel
theorem dX0_isFirstOfGroup_1 : decode cX0_isFirstOfGroup 1 = .ok (.istore_n 2, 1) := by decide +kernel
theorem dX0_isFirstOfGroup_2 : decode cX0_isFirstOfGroup 2 = .ok (.iload_n 2, 1) := by decide +kernel
theorem dX0_isFirstOfGroup_3 : decode cX0_isFirstOfGroup 3 = .ok (.iload_n 1, 1) := by decide +kernel
theorem dX0_isFirstOfGroup_4 : decode cX0_isFirstOfGroup 4 = .ok (.if_icmp .ge 20, 3) := by decide +kernel
theorem dX0_isFirstOfGroup_7 : decode cX0_isFirstOfGroup 7 = .ok (.aload_n 0, 1) := by decide +kernel
theorem dX0_isFirstOfGroup_8 : decode cX0_isFirstOfGroup 8 = .ok (.iload_n 2, 1) := by decide +kernel
theorem dX0_isFirstOfGroup_9 : decode cX0_isFirstOfGroup 9 = .ok (.iload_n 1, 1) := by decide +kernel
theorem dX0_isFirstOfGroup_10 : decode cX0_isFirstOfGroup 10 = .ok (.invokevirtual 74, 3) := by decide +kernel
theorem dX0_isFirstOfGroup_13 : decode cX0_isFirstOfGroup 13 = .ok (.ifCond .eq 5, 3) := by decide +kernel
theorem dX0_isFirstOfGroup_16 : decode cX0_isFirstOfGroup 16 = .ok (.iconst 0, 1) := by decide +kernel
theorem dX0_isFirstOfGroup_17 : decode cX0_isFirstOfGroup 17 = .ok (.ireturn, 1) := by decide +kernel
theorem dX0_isFirstOfGroup_18 : decode cX0_isFirstOfGroup 18 = .ok (.iinc 2 1, 3) := by decide +kernel
theorem dX0_isFirstOfGroup_21 : decode cX0_isFirstOfGroup 21 = .ok (.goto (-19), 3) := by decide +kernel
theorem dX0_isFirstOfGroup_24 : decode cX0_isFirstOfGroup 24 = .ok (.aload_n 0, 1) := by decide +kernel
theorem dX0_isFirstOfGroup_25 : decode cX0_isFirstOfGroup 25 = .ok (.iload_n 1, 1) := by decide +kernel
theorem dX0_isFirstOfGroup_26 : decode cX0_isFirstOfGroup 26 = .ok (.invokevirtual 71, 3) := by decide +kernel
theorem dX0_isFirstOfGroup_29 : decode cX0_isFirstOfGroup 29 = .ok (.ireturn, 1) := by decide +kernel
set_option maxRecDepth 20000 in
theorem ggX0_numberOfGroups_X0_isFirstOfGroup : GoodIn wsX0_numberOfGroups wsX0_isFirstOfGroup := goodIn_r _ [6, 7, 8, 9, 5, 10, 11, 12, 13, 14, 15, 16, 17, 18, 19, 20, 21, 22, 23, 24, 25, 26] (by decide +kernel) (by decide +kernel)
set_option maxRecDepth 20000 in
theorem gX0_numberOfGroups_X0_isFirstOfGroup : GoodIn wsX0_numberOfGroups (wsV RX0 77 RX0 yX0_isFirstOfGroup wsX0_isFirstOfGroup) := goodIn_app (goodIn_of _ (by decide +kernel)) ggX0_numberOfGroups_X0_isFirstOfGroup
theorem dX0_numberOfGroups_0 : decode cX0_numberOfGroups 0 = .ok (.iconst 0, 1) := by decide +kernel
theorem dX0_numberOfGroups_1 : decode cX0_numberOfGroups 1 = .ok (.istore_n 1, 1) := by decide +kernel
theorem dX0_numberOfGroups_2 : decode cX0_numberOfGroups 2 = .ok (.iconst 0, 1) := by decide +kernel
theorem dX0_numberOfGroups_3 : decode cX0_numberOfGroups 3 = .ok (.istore_n 2, 1) := by decide +kernel
theorem dX0_numberOfGroups_4 : decode cX0_numberOfGroups 4 = .ok (.iload_n 2, 1) := by decide +kernel
theorem dX0_numberOfGroups_5 : decode cX0_numberOfGroups 5 = .ok (.aload_n 0, 1) := by decide +kernel
theorem dX0_numberOfGroups_6 : decode cX0_numberOfGroups 6 = .ok (.getfield 36, 3) := by decide +kernel
theorem dX0_numberOfGroups_9 : decode cX0_numberOfGroups 9 = .ok (.if_icmp .ge 20, 3) := by decide +kernel
theorem dX0_numberOfGroups_12 : decode cX0_numberOfGroups 12 = .ok (.aload_n 0, 1) := by decide +kernel
theorem dX0_numberOfGroups_13 : decode cX0_numberOfGroups 13 = .ok (.iload_n 2, 1) := by decide +kernel
theorem dX0_numberOfGroups_14 : decode cX0_numberOfGroups 14 = .ok (.invokevirtual 77, 3) := by decide +kernel
theorem dX0_numberOfGroups_17 : decode cX0_numberOfGroups 17 = .ok (.ifCond .eq 6, 3) := by decide +kernel
theorem dX0_numberOfGroups_20 : decode cX0_numberOfGroups 20 = .ok (.iinc 1 1, 3) := by decide +kernel
theorem dX0_numberOfGroups_23 : decode cX0_numberOfGroups 23 = .ok (.iinc 2 1, 3) := by decide +kernel
theorem dX0_numberOfGroups_26 : decode cX0_numberOfGroups 26 = .ok (.goto (-22), 3) := by decide +kernel
theorem dX0_numberOfGroups_29 : decode cX0_numberOfGroups 29 = .ok (.iload_n 1, 1) := by decide +kernel
theorem dX0_numberOfGroups_30 : decode cX0_numberOfGroups 30 = .ok (.ireturn, 1) := by decide +kernel
set_option maxRecDepth 20000 in
theorem ggX0_firstOfGroup_X0_isFirstOfGroup : GoodIn wsX0_firstOfGroup wsX0_isFirstOfGroup := goodIn_r _ [6, 7, 8, 9, 5, 10, 11, 12, 13, 14, 15, 16, 17, 18, 19, 20, 21, 22, 23, 24, 25, 26] (by decide +kernel) (by decide +kernel)
set_option maxRecDepth 20000 in
theorem gX0_firstOfGroup_X0_isFirstOfGroup : GoodIn wsX0_firstOfGroup (wsV RX0 77 RX0 yX0_isFirstOfGroup wsX0_isFirstOfGroup) := goodIn_app (goodIn_of _ (by decide +kernel)) ggX0_firstOfGroup_X0_isFirstOfGroup
theorem dX0_firstOfGroup_0 : decode cX0_firstOfGroup 0 = .ok (.iconst 0, 1) := by decide +kernel
theorem dX0_firstOfGroup_1 : decode cX0_firstOfGroup 1 = .ok (.istore_n 2, 1) := by decide +kernel
theorem dX0_firstOfGroup_2 : decode cX0_firstOfGroup 2 = .ok (.iconst 0, 1) := by decide +kernel
theorem dX0_firstOfGroup_3 : decode cX0_firstOfGroup 3 = .ok (.istore_n 3, 1) := by decide +kernel
theorem dX0_firstOfGroup_4 : decode cX0_firstOfGroup 4 = .ok (.iload_n 3, 1) := by decide +kernel
theorem dX0_firstOfGroup_5 : decode cX0_firstOfGroup 5 = .ok (.aload_n 0, 1) := by decide +kernel
theorem dX0_firstOfGroup_6 : decode cX0_firstOfGroup 6 = .ok (.getfield 36, 3) := by decide +kernel
theorem dX0_firstOfGroup_9 : decode cX0_firstOfGroup 9 = .ok (.if_icmp .ge 30, 3) := by decide +kernel
theorem dX0_firstOfGroup_12 : decode cX0_firstOfGroup 12 = .ok (.aload_n 0, 1) := by decide +kernel
theorem dX0_firstOfGroup_13 : decode cX0_firstOfGroup 13 = .ok (.iload_n 3, 1) := by decide +kernel
theorem dX0_firstOfGroup_14 : decode cX0_firstOfGroup 14 = .ok (.invokevirtual 77, 3) := by decide +kernel
theorem dX0_firstOfGroup_17 : decode cX0_firstOfGroup 17 = .ok (.ifCond .ne 6, 3) := by decide +kernel
theorem dX0_firstOfGroup_20 : decode cX0_firstOfGroup 20 = .ok (.goto 13, 3) := by decide +kernel
theorem dX0_firstOfGroup_23 : decode cX0_firstOfGroup 23 = .ok (.iload_n 2, 1) := by decide +kernel
theorem dX0_firstOfGroup_24 : decode cX0_firstOfGroup 24 = .ok (.iload_n 1, 1) := by decide +kernel
theorem dX0_firstOfGroup_25 : decode cX0_firstOfGroup 25 = .ok (.if_icmp .ne 5, 3) := by decide +kernel
theorem dX0_firstOfGroup_28 : decode cX0_firstOfGroup 28 = .ok (.iload_n 3, 1) := by decide +kernel
theorem dX0_firstOfGroup_29 : decode cX0_firstOfGroup 29 = .ok (.ireturn, 1) := by decide +kernel
theorem dX0_firstOfGroup_30 : decode cX0_firstOfGroup 30 = .ok (.iinc 2 1, 3) := by decide +kernel
theorem dX0_firstOfGroup_33 : decode cX0_firstOfGroup 33 = .ok (.iinc 3 1, 3) := by decide +kernel
theorem dX0_firstOfGroup_36 : decode cX0_firstOfGroup 36 = .ok (.goto (-32), 3) := by decide +kernel
theorem dX0_firstOfGroup_39 : decode cX0_firstOfGroup 39 = .ok (.bipush (-9), 2) := by decide +kernel
theorem dX0_firstOfGroup_41 : decode cX0_firstOfGroup 41 = .ok (.ireturn, 1) := by decide +kernel
set_option maxRecDepth 20000 in
theorem ggX0_sizeOfGroup_X0_sameGroup : GoodIn wsX0_sizeOfGroup wsX0_sameGroup := goodIn_r _ [6, 7, 8, 9, 10, 11, 5, 12, 13, 14, 15, 16, 17, 18, 19, 20, 21, 22] (by decide +kernel) (by decide +kernel)
set_option maxRecDepth 20000 in
theorem gX0_sizeOfGroup_X0_sameGroup : GoodIn wsX0_sizeOfGroup (wsV RX0 74 RX0 yX0_sameGroup wsX0_sameGroup) := goodIn_app (goodIn_of _ (by decide +kernel)) ggX0_sizeOfGroup_X0_sameGroup
theorem dX0_sizeOfGroup_0 : decode cX0_sizeOfGroup 0 = .ok (.iconst 0, 1) := by decide +kernel
theorem dX0_sizeOfGroup_1 : decode cX0_sizeOfGroup 1 = .ok (.istore_n 2, 1) := by decide +kernel
theorem dX0_sizeOfGroup_2 : decode cX0_sizeOfGroup 2 = .ok (.iconst 0, 1) := by decide +kernel
theorem dX0_sizeOfGroup_3 : decode cX0_sizeOfGroup 3 = .ok (.istore_n 3, 1) := by decide +kernel
theorem dX0_sizeOfGroup_4 : decode cX0_sizeOfGroup 4 = .ok (.iload_n 3, 1) := by decide +kernel
theorem dX0_sizeOfGroup_5 : decode cX0_sizeOfGroup 5 = .ok (.aload_n 0, 1) := by decide +kernel
theorem dX0_sizeOfGroup_6 : decode cX0_sizeOfGroup 6 = .ok (.getfield 36, 3) := by decide +kernel
theorem dX0_sizeOfGroup_9 : decode cX0_sizeOfGroup 9 = .ok (.if_icmp .ge 21, 3) := by decide +kernel
theorem dX0_sizeOfGroup_12 : decode cX0_sizeOfGroup 12 = .ok (.aload_n 0, 1) := by decide +kernel
theorem dX0_sizeOfGroup_13 : decode cX0_sizeOfGroup 13 = .ok (.iload_n 1, 1) := by decide +kernel
theorem dX0_sizeOfGroup_14 : decode cX0_sizeOfGroup 14 = .ok (.iload_n 3, 1) := by decide +kernel
theorem dX0_sizeOfGroup_15 : decode cX0_sizeOfGroup 15 = .ok (.invokevirtual 74, 3) := by decide +kernel
theorem dX0_sizeOfGroup_18 : decode cX0_sizeOfGroup 18 = .ok (.ifCond .eq 6, 3) := by decide +kernel
theorem dX0_sizeOfGroup_21 : decode cX0_sizeOfGroup 21 = .ok (.iinc 2 1, 3) := by decide +kernel
theorem dX0_sizeOfGroup_24 : decode cX0_sizeOfGroup 24 = .ok (.iinc 3 1, 3) := by decide +kernel
theorem dX0_sizeOfGroup_27 : decode cX0_sizeOfGroup 27 = .ok (.goto (-23), 3) := by decide +kernel
theorem dX0_sizeOfGroup_30 : decode cX0_sizeOfGroup 30 = .ok (.iload_n 2, 1) := by decide +kernel
theorem dX0_sizeOfGroup_31 : decode cX0_sizeOfGroup 31 = .ok (.ireturn, 1) := by decide +kernel
end
section
theorem dX1_init_0 : decode cX1_init 0 = .ok (.aload_n 0, 1) := by decide +kernel
theorem dX1_init_1 : decode cX1_init 1 = .ok (.invokespecial 3, 3) := by decide +kernel
theorem dX1_init_4 : decode cX1_init 4 = .ok (.aload_n 0, 1) := by decide +kernel
theorem dX1_init_5 : decode cX1_init 5 = .ok (.iconst 5, 1) := by decide +kernel
theorem dX1_init_6 : decode cX1_init 6 = .ok (.newarray .int, 2) := by decide +kernel
theorem dX1_init_8 : decode cX1_init 8 = .ok (.putfield 9, 3) := by decide +kernel
theorem dX1_init_11 : decode cX1_init 11 = .ok (.aload_n 0, 1) := by decide +kernel
theorem dX1_init_12 : decode cX1_init 12 = .ok (.iconst 5, 1) := by decide +kernel
theorem dX1_init_13 : decode cX1_init 13 = .ok (.newarray .int, 2) := by decide +kernel
theorem dX1_init_15 : decode cX1_init 15 = .ok (.putfield 15, 3) := by decide +kernel
theorem dX1_init_18 : decode cX1_init 18 = .ok (.aload_n 0, 1) := by decide +kernel
theorem dX1_init_19 : decode cX1_init 19 = .ok (.iconst 5, 1) := by decide +kernel
theorem dX1_init_20 : decode cX1_init 20 = .ok (.newarray .int, 2) := by decide +kernel
theorem dX1_init_22 : decode cX1_init 22 = .ok (.putfield 18, 3) := by decide +kernel
theorem dX1_init_25 : decode cX1_init 25 = .ok (.aload_n 0, 1) := by decide +kernel
theorem dX1_init_26 : decode cX1_init 26 = .ok (.iconst 5, 1) := by decide +kernel
theorem dX1_init_27 : decode cX1_init 27 = .ok (.newarray .int, 2) := by decide +kernel
theorem dX1_init_29 : decode cX1_init 29 = .ok (.putfield 21, 3) := by decide +kernel
theorem dX1_init_32 : decode cX1_init 32 = .ok (.aload_n 0, 1) := by decide +kernel
theorem dX1_init_33 : decode cX1_init 33 = .ok (.iconst 5, 1) := by decide +kernel
theorem dX1_init_34 : decode cX1_init 34 = .ok (.newarray .int, 2) := by decide +kernel
theorem dX1_init_36 : decode cX1_init 36 = .ok (.putfield 24, 3) := by decide +kernel
theorem dX1_init_39 : decode cX1_init 39 = .ok (.aload_n 0, 1) := by decide +kernel
theorem dX1_init_40 : decode cX1_init 40 = .ok (.iconst 5, 1) := by decide +kernel
theorem dX1_init_41 : decode cX1_init 41 = .ok (.newarray .int, 2) := by decide +kernel
theorem dX1_init_43 : decode cX1_init 43 = .ok (.putfield 27, 3) := by decide +kernel
theorem dX1_init_46 : decode cX1_init 46 = .ok (.return_, 1) := by decide +kernel
theorem dX1_copyFrom_0 : decode cX1_copyFrom 0 = .ok (.aload_n 0, 1) := by decide +kernel
theorem dX1_copyFrom_1 : decode cX1_copyFrom 1 = .ok (.aload_n 1, 1) := by decide +kernel
theorem dX1_copyFrom_2 : decode cX1_copyFrom 2 = .ok (.getfield 30, 3) := by decide +kernel
theorem dX1_copyFrom_5 : decode cX1_copyFrom 5 = .ok (.putfield 30, 3) := by decide +kernel
theorem dX1_copyFrom_8 : decode cX1_copyFrom 8 = .ok (.aload_n 0, 1) := by decide +kernel
theorem dX1_copyFrom_9 : decode cX1_copyFrom 9 = .ok (.aload_n 1, 1) := by decide +kernel
theorem dX1_copyFrom_10 : decode cX1_copyFrom 10 = .ok (.getfield 34, 3) := by decide +kernel
theorem dX1_copyFrom_13 : decode cX1_copyFrom 13 = .ok (.putfield 34, 3) := by decide +kernel
theorem dX1_copyFrom_16 : decode cX1_copyFrom 16 = .ok (.aload_n 1, 1) := by decide +kernel
theorem dX1_copyFrom_17 : decode cX1_copyFrom 17 = .ok (.getfield 9, 3) := by decide +kernel
theorem dX1_copyFrom_20 : decode cX1_copyFrom 20 = .ok (.iconst 0, 1) := by decide +kernel
theorem dX1_copyFrom_21 : decode cX1_copyFrom 21 = .ok (.aload_n 0, 1) := by decide +kernel
theorem dX1_copyFrom_22 : decode cX1_copyFrom 22 = .ok (.getfield 9, 3) := by decide +kernel
theorem dX1_copyFrom_25 : decode cX1_copyFrom 25 = .ok (.iconst 0, 1) := by decide +kernel
theorem dX1_copyFrom_26 : decode cX1_copyFrom 26 = .ok (.iconst 5, 1) := by decide +kernel
theorem dX1_copyFrom_27 : decode cX1_copyFrom 27 = .ok (.invokestatic 37, 3) := by decide +kernel
theorem dX1_copyFrom_30 : decode cX1_copyFrom 30 = .ok (.aload_n 1, 1) := by decide +kernel
theorem dX1_copyFrom_31 : decode cX1_copyFrom 31 = .ok (.getfield 15, 3) := by decide +kernel
theorem dX1_copyFrom_34 : decode cX1_copyFrom 34 = .ok (.iconst 0, 1) := by decide +kernel
theorem dX1_copyFrom_35 : decode cX1_copyFrom 35 = .ok (.aload_n 0, 1) := by decide +kernel
theorem dX1_copyFrom_36 : decode cX1_copyFrom 36 = .ok (.getfield 15, 3) := by decide +kernel
theorem dX1_copyFrom_39 : decode cX1_copyFrom 39 = .ok (.iconst 0, 1) := by decide +kernel
theorem dX1_copyFrom_40 : decode cX1_copyFrom 40 = .ok (.iconst 5, 1) := by decide +kernel
theorem dX1_copyFrom_41 : decode cX1_copyFrom 41 = .ok (.invokestatic 37, 3) := by decide +kernel
theorem dX1_copyFrom_44 : decode cX1_copyFrom 44 = .ok (.aload_n 1, 1) := by decide +kernel
theorem dX1_copyFrom_45 : decode cX1_copyFrom 45 = .ok (.getfield 18, 3) := by decide +kernel
theorem dX1_copyFrom_48 : decode cX1_copyFrom 48 = .ok (.iconst 0, 1) := by decide +kernel
theorem dX1_copyFrom_49 : decode cX1_copyFrom 49 = .ok (.aload_n 0, 1) := by decide +kernel
theorem dX1_copyFrom_50 : decode cX1_copyFrom 50 = .ok (.getfield 18, 3) := by decide +kernel
theorem dX1_copyFrom_53 : decode cX1_copyFrom 53 = .ok (.iconst 0, 1) := by decide +kernel
theorem dX1_copyFrom_54 : decode cX1_copyFrom 54 = .ok (.iconst 5, 1) := by decide +kernel
theorem dX1_copyFrom_55 : decode cX1_copyFrom 55 = .ok (.invokestatic 37, 3) := by decide +kernel
theorem dX1_copyFrom_58 : decode cX1_copyFrom 58 = .ok (.aload_n 1, 1) := by decide +kernel
theorem dX1_copyFrom_59 : decode cX1_copyFrom 59 = .ok (.getfield 21, 3) := by decide +kernel
theorem dX1_copyFrom_62 : decode cX1_copyFrom 62 = .ok (.iconst 0, 1) := by decide +kernel
theorem dX1_copyFrom_63 : decode cX1_copyFrom 63 = .ok (.aload_n 0, 1) := by decide +kernel
theorem dX1_copyFrom_64 : decode cX1_copyFrom 64 = .ok (.getfield 21, 3) := by decide +kernel
theorem dX1_copyFrom_67 : decode cX1_copyFrom 67 = .ok (.iconst 0, 1) := by decide +kernel
theorem dX1_copyFrom_68 : decode cX1_copyFrom 68 = .ok (.iconst 5, 1) := by decide +kernel
theorem dX1_copyFrom_69 : decode cX1_copyFrom 69 = .ok (.invokestatic 37, 3) := by decide +kernel
theorem dX1_copyFrom_72 : decode cX1_copyFrom 72 = .ok (.aload_n 1, 1) := by decide +kernel
theorem dX1_copyFrom_73 : decode cX1_copyFrom 73 = .ok (.getfield 24, 3) := by decide +kernel
theorem dX1_copyFrom_76 : decode cX1_copyFrom 76 = .ok (.iconst 0, 1) := by decide +kernel
theorem dX1_copyFrom_77 : decode cX1_copyFrom 77 = .ok (.aload_n 0, 1) := by decide +kernel
theorem dX1_copyFrom_78 : decode cX1_copyFrom 78 = .ok (.getfield 24, 3) := by decide +kernel
theorem dX1_copyFrom_81 : decode cX1_copyFrom 81 = .ok (.iconst 0, 1) := by decide +kernel
theorem dX1_copyFrom_82 : decode cX1_copyFrom 82 = .ok (.iconst 5, 1) := by decide +kernel
theorem dX1_copyFrom_83 : decode cX1_copyFrom 83 = .ok (.invokestatic 37, 3) := by decide +kernel
theorem dX1_copyFrom_86 : decode cX1_copyFrom 86 = .ok (.aload_n 1, 1) := by decide +kernel
theorem dX1_copyFrom_87 : decode cX1_copyFrom 87 = .ok (.getfield 27, 3) := by decide +kernel
theorem dX1_copyFrom_90 : decode cX1_copyFrom 90 = .ok (.iconst 0, 1) := by decide +kernel
theorem dX1_copyFrom_91 : decode cX1_copyFrom 91 = .ok (.aload_n 0, 1) := by decide +kernel
theorem dX1_copyFrom_92 : decode cX1_copyFrom 92 = .ok (.getfield 27, 3) := by decide +kernel
theorem dX1_copyFrom_95 : decode cX1_copyFrom 95 = .ok (.iconst 0, 1) := by decide +kernel
theorem dX1_copyFrom_96 : decode cX1_copyFrom 96 = .ok (.iconst 5, 1) := by decide +kernel
theorem dX1_copyFrom_97 : decode cX1_copyFrom 97 = .ok (.invokestatic 37, 3) := by decide +kernel
theorem dX1_copyFrom_100 : decode cX1_copyFrom 100 = .ok (.return_, 1) := by decide +kernel
theorem dX1_has_0 : decode cX1_has 0 = .ok (.iload_n 1, 1) := by decide +kernel
theorem dX1_has_1 : decode cX1_has 1 = .ok (.ifCond .lt 15, 3) := by decide +kernel
theorem dX1_has_4 : decode cX1_has 4 = .ok (.iload_n 1, 1) := by decide +kernel
theorem dX1_has_5 : decode cX1_has 5 = .ok (.aload_n 0, 1) := by decide +kernel
theorem dX1_has_6 : decode cX1_has 6 = .ok (.getfield 30, 3) := by decide +kernel
theorem dX1_has_9 : decode cX1_has 9 = .ok (.if_icmp .ge 7, 3) := by decide +kernel
theorem dX1_has_12 : decode cX1_has 12 = .ok (.iconst 1, 1) := by decide +kernel
theorem dX1_has_13 : decode cX1_has 13 = .ok (.goto 4, 3) := by decide +kernel
theorem dX1_has_16 : decode cX1_has 16 = .ok (.iconst 0, 1) := by decide +kernel
theorem dX1_has_17 : decode cX1_has 17 = .ok (.ireturn, 1) := by decide +kernel
theorem dX1_add_0 : decode cX1_add 0 = .ok (.aload_n 0, 1) := by decide +kernel
theorem dX1_add_1 : decode cX1_add 1 = .ok (.getfield 30, 3) := by decide +kernel
theorem dX1_add_4 : decode cX1_add 4 = .ok (.istore 4, 2) := by decide +kernel
theorem dX1_add_6 : decode cX1_add 6 = .ok (.iload 4, 2) := by decide +kernel
theorem dX1_add_8 : decode cX1_add 8 = .ok (.iconst 5, 1) := by decide +kernel
theorem dX1_add_9 : decode cX1_add 9 = .ok (.if_icmp .lt 6, 3) := by decide +kernel
theorem dX1_add_12 : decode cX1_add 12 = .ok (.bipush (-9), 2) := by decide +kernel
theorem dX1_add_14 : decode cX1_add 14 = .ok (.ireturn, 1) := by decide +kernel
theorem dX1_add_15 : decode cX1_add 15 = .ok (.aload_n 0, 1) := by decide +kernel
theorem dX1_add_16 : decode cX1_add 16 = .ok (.getfield 9, 3) := by decide +kernel
theorem dX1_add_19 : decode cX1_add 19 = .ok (.iload 4, 2) := by decide +kernel
theorem dX1_add_21 : decode cX1_add 21 = .ok (.iload_n 1, 1) := by decide +kernel
theorem dX1_add_22 : decode cX1_add 22 = .ok (.iastore, 1) := by decide +kernel
theorem dX1_add_23 : decode cX1_add 23 = .ok (.aload_n 0, 1) := by decide +kernel
theorem dX1_add_24 : decode cX1_add 24 = .ok (.getfield 15, 3) := by decide +kernel
theorem dX1_add_27 : decode cX1_add 27 = .ok (.iload 4, 2) := by decide +kernel
theorem dX1_add_29 : decode cX1_add 29 = .ok (.iload_n 2, 1) := by decide +kernel
theorem dX1_add_30 : decode cX1_add 30 = .ok (.iastore, 1) := by decide +kernel
theorem dX1_add_31 : decode cX1_add 31 = .ok (.aload_n 0, 1) := by decide +kernel
theorem dX1_add_32 : decode cX1_add 32 = .ok (.getfield 18, 3) := by decide +kernel
theorem dX1_add_35 : decode cX1_add 35 = .ok (.iload 4, 2) := by decide +kernel
theorem dX1_add_37 : decode cX1_add 37 = .ok (.iload_n 3, 1) := by decide +kernel
theorem dX1_add_38 : decode cX1_add 38 = .ok (.iastore, 1) := by decide +kernel
theorem dX1_add_39 : decode cX1_add 39 = .ok (.aload_n 0, 1) := by decide +kernel
theorem dX1_add_40 : decode cX1_add 40 = .ok (.getfield 21, 3) := by decide +kernel
theorem dX1_add_43 : decode cX1_add 43 = .ok (.iload 4, 2) := by decide +kernel
theorem dX1_add_45 : decode cX1_add 45 = .ok (.iload_n 1, 1) := by decide +kernel
theorem dX1_add_46 : decode cX1_add 46 = .ok (.iastore, 1) := by decide +kernel
theorem dX1_add_47 : decode cX1_add 47 = .ok (.aload_n 0, 1) := by decide +kernel
theorem dX1_add_48 : decode cX1_add 48 = .ok (.getfield 24, 3) := by decide +kernel
theorem dX1_add_51 : decode cX1_add 51 = .ok (.iload 4, 2) := by decide +kernel
theorem dX1_add_53 : decode cX1_add 53 = .ok (.iconst 0, 1) := by decide +kernel
theorem dX1_add_54 : decode cX1_add 54 = .ok (.iastore, 1) := by decide +kernel
theorem dX1_add_55 : decode cX1_add 55 = .ok (.aload_n 0, 1) := by decide +kernel
theorem dX1_add_56 : decode cX1_add 56 = .ok (.getfield 27, 3) := by decide +kernel
theorem dX1_add_59 : decode cX1_add 59 = .ok (.iload 4, 2) := by decide +kernel
theorem dX1_add_61 : decode cX1_add 61 = .ok (.iconst 0, 1) := by decide +kernel
theorem dX1_add_62 : decode cX1_add 62 = .ok (.iastore, 1) := by decide +kernel
theorem dX1_add_63 : decode cX1_add 63 = .ok (.aload_n 0, 1) := by decide +kernel
theorem dX1_add_64 : decode cX1_add 64 = .ok (.iload 4, 2) := by decide +kernel
theorem dX1_add_66 : decode cX1_add 66 = .ok (.iconst 1, 1) := by decide +kernel
theorem dX1_add_67 : decode cX1_add 67 = .ok (.iadd, 1) := by decide +kernel
theorem dX1_add_68 : decode cX1_add 68 = .ok (.putfield 30, 3) := by decide +kernel
theorem dX1_add_71 : decode cX1_add 71 = .ok (.iload 4, 2) := by decide +kernel
theorem dX1_add_73 : decode cX1_add 73 = .ok (.ireturn, 1) := by decide +kernel
theorem dX1_serves_0 : decode cX1_serves 0 = .ok (.iload_n 2, 1) := by decide +kernel
theorem dX1_serves_1 : decode cX1_serves 1 = .ok (.aload_n 0, 1) := by decide +kernel
theorem dX1_serves_2 : decode cX1_serves 2 = .ok (.getfield 9, 3) := by decide +kernel
theorem dX1_serves_5 : decode cX1_serves 5 = .ok (.iload_n 1, 1) := by decide +kernel
theorem dX1_serves_6 : decode cX1_serves 6 = .ok (.iaload, 1) := by decide +kernel
theorem dX1_serves_7 : decode cX1_serves 7 = .ok (.if_icmp .lt 17, 3) := by decide +kernel
theorem dX1_serves_10 : decode cX1_serves 10 = .ok (.iload_n 2, 1) := by decide +kernel
theorem dX1_serves_11 : decode cX1_serves 11 = .ok (.aload_n 0, 1) := by decide +kernel
theorem dX1_serves_12 : decode cX1_serves 12 = .ok (.getfield 15, 3) := by decide +kernel
theorem dX1_serves_15 : decode cX1_serves 15 = .ok (.iload_n 1, 1) := by decide +kernel
theorem dX1_serves_16 : decode cX1_serves 16 = .ok (.iaload, 1) := by decide +kernel
theorem dX1_serves_17 : decode cX1_serves 17 = .ok (.if_icmp .gt 7, 3) := by decide +kernel
theorem dX1_serves_20 : decode cX1_serves 20 = .ok (.iconst 1, 1) := by decide +kernel
theorem dX1_serves_21 : decode cX1_serves 21 = .ok (.goto 4, 3) := by decide +kernel
theorem dX1_serves_24 : decode cX1_serves 24 = .ok (.iconst 0, 1) := by decide +kernel
theorem dX1_serves_25 : decode cX1_serves 25 = .ok (.ireturn, 1) := by decide +kernel
theorem dX1_travelTowards_0 : decode cX1_travelTowards 0 = .ok (.aload_n 0, 1) := by decide +kernel
theorem dX1_travelTowards_1 : decode cX1_travelTowards 1 = .ok (.getfield 21, 3) := by decide +kernel
theorem dX1_travelTowards_4 : decode cX1_travelTowards 4 = .ok (.iload_n 1, 1) := by decide +kernel
theorem dX1_travelTowards_5 : decode cX1_travelTowards 5 = .ok (.dup2, 1) := by decide +kernel
theorem dX1_travelTowards_6 : decode cX1_travelTowards 6 = .ok (.iaload, 1) := by decide +kernel
theorem dX1_travelTowards_7 : decode cX1_travelTowards 7 = .ok (.iload_n 2, 1) := by decide +kernel
theorem dX1_travelTowards_8 : decode cX1_travelTowards 8 = .ok (.aload_n 0, 1) := by decide +kernel
theorem dX1_travelTowards_9 : decode cX1_travelTowards 9 = .ok (.getfield 21, 3) := by decide +kernel
theorem dX1_travelTowards_12 : decode cX1_travelTowards 12 = .ok (.iload_n 1, 1) := by decide +kernel
theorem dX1_travelTowards_13 : decode cX1_travelTowards 13 = .ok (.iaload, 1) := by decide +kernel
theorem dX1_travelTowards_14 : decode cX1_travelTowards 14 = .ok (.if_icmp .le 7, 3) := by decide +kernel
theorem dX1_travelTowards_17 : decode cX1_travelTowards 17 = .ok (.iconst 1, 1) := by decide +kernel
theorem dX1_travelTowards_18 : decode cX1_travelTowards 18 = .ok (.goto 4, 3) := by decide +kernel
theorem dX1_travelTowards_21 : decode cX1_travelTowards 21 = .ok (.iconst (-1), 1) := by decide +kernel
theorem dX1_travelTowards_22 : decode cX1_travelTowards 22 = .ok (.iadd, 1) := by decide +kernel
theorem dX1_travelTowards_23 : decode cX1_travelTowards 23 = .ok (.iastore, 1) := by decide +kernel
theorem dX1_travelTowards_24 : decode cX1_travelTowards 24 = .ok (.aload_n 0, 1) := by decide +kernel
theorem dX1_travelTowards_25 : decode cX1_travelTowards 25 = .ok (.getfield 27, 3) := by decide +kernel
theorem dX1_travelTowards_28 : decode cX1_travelTowards 28 = .ok (.iload_n 1, 1) := by decide +kernel
theorem dX1_travelTowards_29 : decode cX1_travelTowards 29 = .ok (.dup2, 1) := by decide +kernel
theorem dX1_travelTowards_30 : decode cX1_travelTowards 30 = .ok (.iaload, 1) := by decide +kernel
theorem dX1_travelTowards_31 : decode cX1_travelTowards 31 = .ok (.iconst 1, 1) := by decide +kernel
theorem dX1_travelTowards_32 : decode cX1_travelTowards 32 = .ok (.iadd, 1) := by decide +kernel
theorem dX1_travelTowards_33 : decode cX1_travelTowards 33 = .ok (.iastore, 1) := by decide +kernel
theorem dX1_travelTowards_34 : decode cX1_travelTowards 34 = .ok (.return_, 1) := by decide +kernel
theorem dX1_numberIn_0 : decode cX1_numberIn 0 = .ok (.iconst 0, 1) := by decide +kernel
theorem dX1_numberIn_1 : decode cX1_numberIn 1 = .ok (.istore_n 2, 1) := by decide +kernel
theorem dX1_numberIn_2 : decode cX1_numberIn 2 = .ok (.iconst 0, 1) := by decide +kernel
theorem dX1_numberIn_3 : decode cX1_numberIn 3 = .ok (.istore_n 3, 1) := by decide +kernel
theorem dX1_numberIn_4 : decode cX1_numberIn 4 = .ok (.iload_n 3, 1) := by decide +kernel
theorem dX1_numberIn_5 : decode cX1_numberIn 5 = .ok (.aload_n 0, 1) := by decide +kernel
theorem dX1_numberIn_6 : decode cX1_numberIn 6 = .ok (.getfield 30, 3) := by decide +kernel
theorem dX1_numberIn_9 : decode cX1_numberIn 9 = .ok (.if_icmp .ge 22, 3) := by decide +kernel
theorem dX1_numberIn_12 : decode cX1_numberIn 12 = .ok (.aload_n 0, 1) := by decide +kernel
theorem dX1_numberIn_13 : decode cX1_numberIn 13 = .ok (.getfield 24, 3) := by decide +kernel
theorem dX1_numberIn_16 : decode cX1_numberIn 16 = .ok (.iload_n 3, 1) := by decide +kernel
theorem dX1_numberIn_17 : decode cX1_numberIn 17 = .ok (.iaload, 1) := by decide +kernel
theorem dX1_numberIn_18 : decode cX1_numberIn 18 = .ok (.iload_n 1, 1) := by decide +kernel
theorem dX1_numberIn_19 : decode cX1_numberIn 19 = .ok (.if_icmp .ne 6, 3) := by decide +kernel
theorem dX1_numberIn_22 : decode cX1_numberIn 22 = .ok (.iinc 2 1, 3) := by decide +kernel
theorem dX1_numberIn_25 : decode cX1_numberIn 25 = .ok (.iinc 3 1, 3) := by decide +kernel
theorem dX1_numberIn_28 : decode cX1_numberIn 28 = .ok (.goto (-24), 3) := by decide +kernel
theorem dX1_numberIn_31 : decode cX1_numberIn 31 = .ok (.iload_n 2, 1) := by decide +kernel
theorem dX1_numberIn_32 : decode cX1_numberIn 32 = .ok (.ireturn, 1) := by decide +kernel
theorem dX1_travelledByAll_0 : decode cX1_travelledByAll 0 = .ok (.iconst 0, 1) := by decide +kernel
theorem dX1_travelledByAll_1 : decode cX1_travelledByAll 1 = .ok (.istore_n 1, 1) := by decide +kernel
theorem dX1_travelledByAll_2 : decode cX1_travelledByAll 2 = .ok (.iconst 0, 1) := by decide +kernel
theorem dX1_travelledByAll_3 : decode cX1_travelledByAll 3 = .ok (.istore_n 2, 1) := by decide +kernel
theorem dX1_travelledByAll_4 : decode cX1_travelledByAll 4 = .ok (.iload_n 2, 1) := by decide +kernel
theorem dX1_travelledByAll_5 : decode cX1_travelledByAll 5 = .ok (.aload_n 0, 1) := by decide +kernel
theorem dX1_travelledByAll_6 : decode cX1_travelledByAll 6 = .ok (.getfield 30, 3) := by decide +kernel
theorem dX1_travelledByAll_9 : decode cX1_travelledByAll 9 = .ok (.if_icmp .ge 18, 3) := by decide +kernel
theorem dX1_travelledByAll_12 : decode cX1_travelledByAll 12 = .ok (.iload_n 1, 1) := by decide +kernel
theorem dX1_travelledByAll_13 : decode cX1_travelledByAll 13 = .ok (.aload_n 0, 1) := by decide +kernel
theorem dX1_travelledByAll_14 : decode cX1_travelledByAll 14 = .ok (.getfield 27, 3) := by decide +kernel
theorem dX1_travelledByAll_17 : decode cX1_travelledByAll 17 = .ok (.iload_n 2, 1) := by decide +kernel
theorem dX1_travelledByAll_18 : decode cX1_travelledByAll 18 = .ok (.iaload, 1) := by decide +kernel
theorem dX1_travelledByAll_19 : decode cX1_travelledByAll 19 = .ok (.iadd, 1) := by decide +kernel
theorem dX1_travelledByAll_20 : decode cX1_travelledByAll 20 = .ok (.istore_n 1, 1) := by decide +kernel
theorem dX1_travelledByAll_21 : decode cX1_travelledByAll 21 = .ok (.iinc 2 1, 3) := by decide +kernel
theorem dX1_travelledByAll_24 : decode cX1_travelledByAll 24 = .ok (.goto (-20), 3) := by decide +kernel
theorem dX1_travelledByAll_27 : decode cX1_travelledByAll 27 = .ok (.iload_n 1, 1) := by decide +kernel
theorem dX1_travelledByAll_28 : decode cX1_travelledByAll 28 = .ok (.ireturn, 1) := by decide +kernel
set_option maxRecDepth 20000 in
theorem ggX2_init_X3_init : GoodIn wsX2_init wsX3_init := goodIn_r _ [10, 11, 2, 3, 12, 13, 14, 15, 16, 17, 18, 19, 20, 21, 22, 23, 24, 25, 26, 27, 28, 29, 30, 31, 32, 33, 34, 35, 36, 37, 38, 39, 40, 41, 45, 46, 47, 48, 49, 50, 51, 52, 53, 54, 55, 56, 57, 58, 59, 60, 61, 62, 63, 64, 65] (by decide +kernel) (by decide +kernel)
set_option maxRecDepth 20000 in
theorem gX2_init_X3_init : GoodIn wsX2_init (wsX3_init) := ggX2_init_X3_init
theorem dX2_init_0 : decode cX2_init 0 = .ok (.aload_n 0, 1) := by decide +kernel
theorem dX2_init_1 : decode cX2_init 1 = .ok (.invokespecial 3, 3) := by decide +kernel
theorem dX2_init_4 : decode cX2_init 4 = .ok (.aload_n 0, 1) := by decide +kernel
theorem dX2_init_5 : decode cX2_init 5 = .ok (.iconst 5, 1) := by decide +kernel
theorem dX2_init_6 : decode cX2_init 6 = .ok (.anewarray 9, 3) := by decide +kernel
theorem dX2_init_9 : decode cX2_init 9 = .ok (.putfield 11, 3) := by decide +kernel
theorem dX2_init_12 : decode cX2_init 12 = .ok (.iconst 0, 1) := by decide +kernel
theorem dX2_init_13 : decode cX2_init 13 = .ok (.istore_n 1, 1) := by decide +kernel
theorem dX2_init_14 : decode cX2_init 14 = .ok (.iload_n 1, 1) := by decide +kernel
theorem dX2_init_15 : decode cX2_init 15 = .ok (.iconst 5, 1) := by decide +kernel
theorem dX2_init_16 : decode cX2_init 16 = .ok (.if_icmp .ge 22, 3) := by decide +kernel
theorem dX2_init_19 : decode cX2_init 19 = .ok (.aload_n 0, 1) := by decide +kernel
theorem dX2_init_20 : decode cX2_init 20 = .ok (.getfield 11, 3) := by decide +kernel
theorem dX2_init_23 : decode cX2_init 23 = .ok (.iload_n 1, 1) := by decide +kernel
theorem dX2_init_24 : decode cX2_init 24 = .ok (.new 9, 3) := by decide +kernel
theorem dX2_init_27 : decode cX2_init 27 = .ok (.dup, 1) := by decide +kernel
theorem dX2_init_28 : decode cX2_init 28 = .ok (.invokespecial 17, 3) := by decide +kernel
theorem dX2_init_31 : decode cX2_init 31 = .ok (.aastore, 1) := by decide +kernel
theorem dX2_init_32 : decode cX2_init 32 = .ok (.iinc 1 1, 3) := by decide +kernel
theorem dX2_init_35 : decode cX2_init 35 = .ok (.goto (-21), 3) := by decide +kernel
theorem dX2_init_38 : decode cX2_init 38 = .ok (.return_, 1) := by decide +kernel
set_option maxRecDepth 20000 in
theorem ggX2_keep_X3_copyFrom : GoodIn wsX2_keep wsX3_copyFrom := goodIn_r _ [12, 13, 14, 15, 16, 17, 18, 19, 20, 21, 22, 23, 24, 25, 26, 27, 28, 29, 30, 31, 32, 33, 34, 35, 36, 37, 38, 39, 40, 41, 42, 43, 44, 45, 46, 47, 48, 49, 57, 58, 59, 60, 61, 62, 63, 64, 65, 66, 67, 68, 69, 70, 71, 72, 73, 74, 75, 76, 77] (by decide +kernel) (by decide +kernel)
set_option maxRecDepth 20000 in
theorem gX2_keep_X3_copyFrom : GoodIn wsX2_keep (wsV RX2 22 RX3 yX3_copyFrom wsX3_copyFrom) := goodIn_app (goodIn_of _ (by decide +kernel)) ggX2_keep_X3_copyFrom
set_option maxRecDepth 20000 in
theorem ggX2_keep_J9_floorMod_7cf53 : GoodIn wsX2_keep wsJ9_floorMod_7cf53 := goodIn_r _ [53] (by decide +kernel) (by decide +kernel)
set_option maxRecDepth 20000 in
theorem gX2_keep_J9_floorMod_7cf53 : GoodIn wsX2_keep (va_wsS RX2 26 yJ9_floorMod_7cf53 wsJ9_floorMod_7cf53) := goodIn_app (goodIn_of _ (by decide +kernel)) ggX2_keep_J9_floorMod_7cf53
theorem dX2_keep_0 : decode cX2_keep 0 = .ok (.aload_n 0, 1) := by decide +kernel
theorem dX2_keep_1 : decode cX2_keep 1 = .ok (.getfield 11, 3) := by decide +kernel
theorem dX2_keep_4 : decode cX2_keep 4 = .ok (.aload_n 0, 1) := by decide +kernel
theorem dX2_keep_5 : decode cX2_keep 5 = .ok (.getfield 18, 3) := by decide +kernel
theorem dX2_keep_8 : decode cX2_keep 8 = .ok (.aaload, 1) := by decide +kernel
theorem dX2_keep_9 : decode cX2_keep 9 = .ok (.astore_n 2, 1) := by decide +kernel
theorem dX2_keep_10 : decode cX2_keep 10 = .ok (.aload_n 2, 1) := by decide +kernel
theorem dX2_keep_11 : decode cX2_keep 11 = .ok (.ifnonnull 4, 3) := by decide +kernel
theorem dX2_keep_14 : decode cX2_keep 14 = .ok (.return_, 1) := by decide +kernel
theorem dX2_keep_15 : decode cX2_keep 15 = .ok (.aload_n 2, 1) := by decide +kernel
theorem dX2_keep_16 : decode cX2_keep 16 = .ok (.aload_n 1, 1) := by decide +kernel
theorem dX2_keep_17 : decode cX2_keep 17 = .ok (.invokevirtual 22, 3) := by decide +kernel
theorem dX2_keep_20 : decode cX2_keep 20 = .ok (.aload_n 0, 1) := by decide +kernel
theorem dX2_keep_21 : decode cX2_keep 21 = .ok (.aload_n 0, 1) := by decide +kernel
theorem dX2_keep_22 : decode cX2_keep 22 = .ok (.getfield 18, 3) := by decide +kernel
theorem dX2_keep_25 : decode cX2_keep 25 = .ok (.iconst 1, 1) := by decide +kernel
theorem dX2_keep_26 : decode cX2_keep 26 = .ok (.iadd, 1) := by decide +kernel
theorem dX2_keep_27 : decode cX2_keep 27 = .ok (.iconst 5, 1) := by decide +kernel
theorem dX2_keep_28 : decode cX2_keep 28 = .ok (.invokestatic 26, 3) := by decide +kernel
theorem dX2_keep_31 : decode cX2_keep 31 = .ok (.putfield 18, 3) := by decide +kernel
theorem dX2_keep_34 : decode cX2_keep 34 = .ok (.aload_n 0, 1) := by decide +kernel
theorem dX2_keep_35 : decode cX2_keep 35 = .ok (.aload_n 0, 1) := by decide +kernel
theorem dX2_keep_36 : decode cX2_keep 36 = .ok (.getfield 32, 3) := by decide +kernel
theorem dX2_keep_39 : decode cX2_keep 39 = .ok (.iconst 1, 1) := by decide +kernel
theorem dX2_keep_40 : decode cX2_keep 40 = .ok (.iadd, 1) := by decide +kernel
theorem dX2_keep_41 : decode cX2_keep 41 = .ok (.iconst 5, 1) := by decide +kernel
theorem dX2_keep_42 : decode cX2_keep 42 = .ok (.invokestatic 35, 3) := by decide +kernel
theorem dX2_keep_45 : decode cX2_keep 45 = .ok (.putfield 32, 3) := by decide +kernel
theorem dX2_keep_48 : decode cX2_keep 48 = .ok (.return_, 1) := by decide +kernel
set_option maxRecDepth 20000 in
theorem ggX2_restore_J9_floorMod_7cf53 : GoodIn wsX2_restore wsJ9_floorMod_7cf53 := goodIn_r _ [7] (by decide +kernel) (by decide +kernel)
set_option maxRecDepth 20000 in
theorem gX2_restore_J9_floorMod_7cf53 : GoodIn wsX2_restore (va_wsS RX2 26 yJ9_floorMod_7cf53 wsJ9_floorMod_7cf53) := goodIn_app (goodIn_of _ (by decide +kernel)) ggX2_restore_J9_floorMod_7cf53
set_option maxRecDepth 20000 in
theorem ggX2_restore_X3_copyFrom : GoodIn wsX2_restore wsX3_copyFrom := goodIn_r _ [12, 13, 14, 15, 16, 17, 18, 19, 20, 21, 22, 23, 24, 25, 26, 27, 28, 29, 30, 31, 32, 33, 34, 35, 36, 37, 38, 39, 40, 41, 42, 43, 44, 45, 46, 47, 48, 49, 53, 54, 55, 56, 57, 58, 59, 60, 61, 62, 63, 64, 65, 66, 67, 68, 69, 70, 71, 72, 73] (by decide +kernel) (by decide +kernel)
set_option maxRecDepth 20000 in
theorem gX2_restore_X3_copyFrom : GoodIn wsX2_restore (wsV RX2 22 RX3 yX3_copyFrom wsX3_copyFrom) := goodIn_app (goodIn_of _ (by decide +kernel)) ggX2_restore_X3_copyFrom
theorem dX2_restore_0 : decode cX2_restore 0 = .ok (.aload_n 0, 1) := by decide +kernel
theorem dX2_restore_1 : decode cX2_restore 1 = .ok (.getfield 18, 3) := by decide +kernel
theorem dX2_restore_4 : decode cX2_restore 4 = .ok (.iconst 1, 1) := by decide +kernel
theorem dX2_restore_5 : decode cX2_restore 5 = .ok (.isub, 1) := by decide +kernel
theorem dX2_restore_6 : decode cX2_restore 6 = .ok (.iconst 5, 1) := by decide +kernel
theorem dX2_restore_7 : decode cX2_restore 7 = .ok (.invokestatic 26, 3) := by decide +kernel
theorem dX2_restore_10 : decode cX2_restore 10 = .ok (.istore_n 2, 1) := by decide +kernel
theorem dX2_restore_11 : decode cX2_restore 11 = .ok (.aload_n 0, 1) := by decide +kernel
theorem dX2_restore_12 : decode cX2_restore 12 = .ok (.getfield 11, 3) := by decide +kernel
theorem dX2_restore_15 : decode cX2_restore 15 = .ok (.iload_n 2, 1) := by decide +kernel
theorem dX2_restore_16 : decode cX2_restore 16 = .ok (.aaload, 1) := by decide +kernel
theorem dX2_restore_17 : decode cX2_restore 17 = .ok (.astore_n 3, 1) := by decide +kernel
theorem dX2_restore_18 : decode cX2_restore 18 = .ok (.aload_n 3, 1) := by decide +kernel
theorem dX2_restore_19 : decode cX2_restore 19 = .ok (.ifnull 11, 3) := by decide +kernel
theorem dX2_restore_22 : decode cX2_restore 22 = .ok (.aload_n 0, 1) := by decide +kernel
theorem dX2_restore_23 : decode cX2_restore 23 = .ok (.getfield 32, 3) := by decide +kernel
theorem dX2_restore_26 : decode cX2_restore 26 = .ok (.iconst 1, 1) := by decide +kernel
theorem dX2_restore_27 : decode cX2_restore 27 = .ok (.if_icmp .ge 4, 3) := by decide +kernel
theorem dX2_restore_30 : decode cX2_restore 30 = .ok (.return_, 1) := by decide +kernel
theorem dX2_restore_31 : decode cX2_restore 31 = .ok (.aload_n 1, 1) := by decide +kernel
theorem dX2_restore_32 : decode cX2_restore 32 = .ok (.aload_n 3, 1) := by decide +kernel
theorem dX2_restore_33 : decode cX2_restore 33 = .ok (.invokevirtual 22, 3) := by decide +kernel
theorem dX2_restore_36 : decode cX2_restore 36 = .ok (.aload_n 0, 1) := by decide +kernel
theorem dX2_restore_37 : decode cX2_restore 37 = .ok (.iload_n 2, 1) := by decide +kernel
theorem dX2_restore_38 : decode cX2_restore 38 = .ok (.putfield 18, 3) := by decide +kernel
theorem dX2_restore_41 : decode cX2_restore 41 = .ok (.aload_n 0, 1) := by decide +kernel
theorem dX2_restore_42 : decode cX2_restore 42 = .ok (.dup, 1) := by decide +kernel
theorem dX2_restore_43 : decode cX2_restore 43 = .ok (.getfield 32, 3) := by decide +kernel
theorem dX2_restore_46 : decode cX2_restore 46 = .ok (.iconst 1, 1) := by decide +kernel
theorem dX2_restore_47 : decode cX2_restore 47 = .ok (.isub, 1) := by decide +kernel
theorem dX2_restore_48 : decode cX2_restore 48 = .ok (.putfield 32, 3) := by decide +kernel
theorem dX2_restore_51 : decode cX2_restore 51 = .ok (.return_, 1) := by decide +kernel
set_option maxRecDepth 20000 in
theorem ggX3_init_X1_init : GoodIn wsX3_init wsX1_init := goodIn_r _ [15, 16, 2, 3, 4, 17, 18, 19, 20, 21, 22, 38, 39, 40, 41, 42, 43, 44, 45] (by decide +kernel) (by decide +kernel)
set_option maxRecDepth 20000 in
theorem gX3_init_X1_init_n17 : GoodIn wsX3_init (wsX1_init) := ggX3_init_X1_init
set_option maxRecDepth 20000 in
theorem ggX3_init_X0_init : GoodIn wsX3_init wsX0_init := goodIn_r _ [24, 25, 2, 3, 4, 26, 27, 28, 29, 30, 31, 32, 33, 46, 47, 48, 49, 50, 51, 52, 53, 54] (by decide +kernel) (by decide +kernel)
set_option maxRecDepth 20000 in
theorem gX3_init_X0_init_n24 : GoodIn wsX3_init (wsX0_init) := ggX3_init_X0_init
theorem dX3_init_0 : decode cX3_init 0 = .ok (.aload_n 0, 1) := by decide +kernel
theorem dX3_init_1 : decode cX3_init 1 = .ok (.invokespecial 3, 3) := by decide +kernel
theorem dX3_init_4 : decode cX3_init 4 = .ok (.aload_n 0, 1) := by decide +kernel
theorem dX3_init_5 : decode cX3_init 5 = .ok (.bipush 24, 2) := by decide +kernel
theorem dX3_init_7 : decode cX3_init 7 = .ok (.newarray .int, 2) := by decide +kernel
theorem dX3_init_9 : decode cX3_init 9 = .ok (.putfield 9, 3) := by decide +kernel
theorem dX3_init_12 : decode cX3_init 12 = .ok (.aload_n 0, 1) := by decide +kernel
theorem dX3_init_13 : decode cX3_init 13 = .ok (.new 15, 3) := by decide +kernel
theorem dX3_init_16 : decode cX3_init 16 = .ok (.dup, 1) := by decide +kernel
theorem dX3_init_17 : decode cX3_init 17 = .ok (.invokespecial 17, 3) := by decide +kernel
theorem dX3_init_20 : decode cX3_init 20 = .ok (.putfield 18, 3) := by decide +kernel
theorem dX3_init_23 : decode cX3_init 23 = .ok (.aload_n 0, 1) := by decide +kernel
theorem dX3_init_24 : decode cX3_init 24 = .ok (.new 22, 3) := by decide +kernel
theorem dX3_init_27 : decode cX3_init 27 = .ok (.dup, 1) := by decide +kernel
theorem dX3_init_28 : decode cX3_init 28 = .ok (.invokespecial 24, 3) := by decide +kernel
theorem dX3_init_31 : decode cX3_init 31 = .ok (.putfield 25, 3) := by decide +kernel
theorem dX3_init_34 : decode cX3_init 34 = .ok (.iconst 0, 1) := by decide +kernel
theorem dX3_init_35 : decode cX3_init 35 = .ok (.istore_n 1, 1) := by decide +kernel
theorem dX3_init_36 : decode cX3_init 36 = .ok (.iload_n 1, 1) := by decide +kernel
theorem dX3_init_37 : decode cX3_init 37 = .ok (.bipush 24, 2) := by decide +kernel
theorem dX3_init_39 : decode cX3_init 39 = .ok (.if_icmp .ge 16, 3) := by decide +kernel
theorem dX3_init_42 : decode cX3_init 42 = .ok (.aload_n 0, 1) := by decide +kernel
theorem dX3_init_43 : decode cX3_init 43 = .ok (.getfield 9, 3) := by decide +kernel
theorem dX3_init_46 : decode cX3_init 46 = .ok (.iload_n 1, 1) := by decide +kernel
theorem dX3_init_47 : decode cX3_init 47 = .ok (.iconst 5, 1) := by decide +kernel
theorem dX3_init_48 : decode cX3_init 48 = .ok (.iastore, 1) := by decide +kernel
theorem dX3_init_49 : decode cX3_init 49 = .ok (.iinc 1 1, 3) := by decide +kernel
theorem dX3_init_52 : decode cX3_init 52 = .ok (.goto (-16), 3) := by decide +kernel
theorem dX3_init_55 : decode cX3_init 55 = .ok (.return_, 1) := by decide +kernel
set_option maxRecDepth 20000 in
theorem ggX3_copyFrom_X1_copyFrom : GoodIn wsX3_copyFrom wsX1_copyFrom := goodIn_r _ [13, 14, 15, 16, 17, 4, 5, 6, 18, 19, 20, 21, 22, 42, 43, 44, 45, 46, 47, 48, 49] (by decide +kernel) (by decide +kernel)
set_option maxRecDepth 20000 in
theorem gX3_copyFrom_X1_copyFrom : GoodIn wsX3_copyFrom (wsV RX3 39 RX1 yX1_copyFrom wsX1_copyFrom) := goodIn_app (goodIn_of _ (by decide +kernel)) ggX3_copyFrom_X1_copyFrom
set_option maxRecDepth 20000 in
theorem ggX3_copyFrom_X0_copyFrom : GoodIn wsX3_copyFrom wsX0_copyFrom := goodIn_r _ [27, 28, 29, 30, 4, 5, 6, 31, 32, 33, 34, 35, 36, 37, 50, 51, 52, 53, 54, 55, 56, 57, 58] (by decide +kernel) (by decide +kernel)
set_option maxRecDepth 20000 in
theorem gX3_copyFrom_X0_copyFrom : GoodIn wsX3_copyFrom (wsV RX3 43 RX0 yX0_copyFrom wsX0_copyFrom) := goodIn_app (goodIn_of _ (by decide +kernel)) ggX3_copyFrom_X0_copyFrom
theorem dX3_copyFrom_0 : decode cX3_copyFrom 0 = .ok (.aload_n 0, 1) := by decide +kernel
theorem dX3_copyFrom_1 : decode cX3_copyFrom 1 = .ok (.aload_n 1, 1) := by decide +kernel
theorem dX3_copyFrom_2 : decode cX3_copyFrom 2 = .ok (.getfield 29, 3) := by decide +kernel
theorem dX3_copyFrom_5 : decode cX3_copyFrom 5 = .ok (.putfield 29, 3) := by decide +kernel
theorem dX3_copyFrom_8 : decode cX3_copyFrom 8 = .ok (.aload_n 1, 1) := by decide +kernel
theorem dX3_copyFrom_9 : decode cX3_copyFrom 9 = .ok (.getfield 9, 3) := by decide +kernel
theorem dX3_copyFrom_12 : decode cX3_copyFrom 12 = .ok (.iconst 0, 1) := by decide +kernel
theorem dX3_copyFrom_13 : decode cX3_copyFrom 13 = .ok (.aload_n 0, 1) := by decide +kernel
theorem dX3_copyFrom_14 : decode cX3_copyFrom 14 = .ok (.getfield 9, 3) := by decide +kernel
theorem dX3_copyFrom_17 : decode cX3_copyFrom 17 = .ok (.iconst 0, 1) := by decide +kernel
theorem dX3_copyFrom_18 : decode cX3_copyFrom 18 = .ok (.bipush 24, 2) := by decide +kernel
theorem dX3_copyFrom_20 : decode cX3_copyFrom 20 = .ok (.invokestatic 33, 3) := by decide +kernel
theorem dX3_copyFrom_23 : decode cX3_copyFrom 23 = .ok (.aload_n 0, 1) := by decide +kernel
theorem dX3_copyFrom_24 : decode cX3_copyFrom 24 = .ok (.getfield 18, 3) := by decide +kernel
theorem dX3_copyFrom_27 : decode cX3_copyFrom 27 = .ok (.aload_n 1, 1) := by decide +kernel
theorem dX3_copyFrom_28 : decode cX3_copyFrom 28 = .ok (.getfield 18, 3) := by decide +kernel
theorem dX3_copyFrom_31 : decode cX3_copyFrom 31 = .ok (.invokevirtual 39, 3) := by decide +kernel
theorem dX3_copyFrom_34 : decode cX3_copyFrom 34 = .ok (.aload_n 0, 1) := by decide +kernel
theorem dX3_copyFrom_35 : decode cX3_copyFrom 35 = .ok (.getfield 25, 3) := by decide +kernel
theorem dX3_copyFrom_38 : decode cX3_copyFrom 38 = .ok (.aload_n 1, 1) := by decide +kernel
theorem dX3_copyFrom_39 : decode cX3_copyFrom 39 = .ok (.getfield 25, 3) := by decide +kernel
theorem dX3_copyFrom_42 : decode cX3_copyFrom 42 = .ok (.invokevirtual 43, 3) := by decide +kernel
theorem dX3_copyFrom_45 : decode cX3_copyFrom 45 = .ok (.return_, 1) := by decide +kernel
set_option maxRecDepth 20000 in
theorem ggX3_hour_J9_floorMod_7cf53 : GoodIn wsX3_hour wsJ9_floorMod_7cf53 := goodIn_r _ [5] (by decide +kernel) (by decide +kernel)
set_option maxRecDepth 20000 in
theorem gX3_hour_J9_floorMod_7cf53 : GoodIn wsX3_hour (va_wsS RX3 46 yJ9_floorMod_7cf53 wsJ9_floorMod_7cf53) := goodIn_app (goodIn_of _ (by decide +kernel)) ggX3_hour_J9_floorMod_7cf53
theorem dX3_hour_0 : decode cX3_hour 0 = .ok (.aload_n 0, 1) := by decide +kernel
theorem dX3_hour_1 : decode cX3_hour 1 = .ok (.getfield 29, 3) := by decide +kernel
theorem dX3_hour_4 : decode cX3_hour 4 = .ok (.bipush 60, 2) := by decide +kernel
theorem dX3_hour_6 : decode cX3_hour 6 = .ok (.idiv, 1) := by decide +kernel
theorem dX3_hour_7 : decode cX3_hour 7 = .ok (.bipush 24, 2) := by decide +kernel
theorem dX3_hour_9 : decode cX3_hour 9 = .ok (.invokestatic 46, 3) := by decide +kernel
theorem dX3_hour_12 : decode cX3_hour 12 = .ok (.ireturn, 1) := by decide +kernel
set_option maxRecDepth 20000 in
theorem ggX3_isAwake_X3_hour : GoodIn wsX3_isAwake wsX3_hour := goodIn_r _ [6, 7, 8, 9, 10, 11, 12, 13, 14, 15] (by decide +kernel) (by decide +kernel)
set_option maxRecDepth 20000 in
theorem gX3_isAwake_X3_hour : GoodIn wsX3_isAwake (wsV RX3 52 RX3 yX3_hour wsX3_hour) := goodIn_app (goodIn_of _ (by decide +kernel)) ggX3_isAwake_X3_hour
theorem dX3_isAwake_0 : decode cX3_isAwake 0 = .ok (.iload_n 1, 1) := by decide +kernel
theorem dX3_isAwake_1 : decode cX3_isAwake 1 = .ok (.aload_n 0, 1) := by decide +kernel
theorem dX3_isAwake_2 : decode cX3_isAwake 2 = .ok (.getfield 9, 3) := by decide +kernel
theorem dX3_isAwake_5 : decode cX3_isAwake 5 = .ok (.aload_n 0, 1) := by decide +kernel
theorem dX3_isAwake_6 : decode cX3_isAwake 6 = .ok (.invokevirtual 52, 3) := by decide +kernel
theorem dX3_isAwake_9 : decode cX3_isAwake 9 = .ok (.iaload, 1) := by decide +kernel
theorem dX3_isAwake_10 : decode cX3_isAwake 10 = .ok (.if_icmp .ge 7, 3) := by decide +kernel
theorem dX3_isAwake_13 : decode cX3_isAwake 13 = .ok (.iconst 1, 1) := by decide +kernel
theorem dX3_isAwake_14 : decode cX3_isAwake 14 = .ok (.goto 4, 3) := by decide +kernel
theorem dX3_isAwake_17 : decode cX3_isAwake 17 = .ok (.iconst 0, 1) := by decide +kernel
theorem dX3_isAwake_18 : decode cX3_isAwake 18 = .ok (.ireturn, 1) := by decide +kernel
set_option maxRecDepth 20000 in
theorem ggX3_canBeGiven_X3_isAwake : GoodIn wsX3_canBeGiven wsX3_isAwake := goodIn_r _ [7, 8, 9, 10, 11, 6, 12, 13, 14, 15, 16, 17, 25, 26, 27, 28] (by decide +kernel) (by decide +kernel)
set_option maxRecDepth 20000 in
theorem gX3_canBeGiven_X3_isAwake : GoodIn wsX3_canBeGiven (wsV RX3 59 RX3 yX3_isAwake wsX3_isAwake) := goodIn_app (goodIn_of _ (by decide +kernel)) ggX3_canBeGiven_X3_isAwake
set_option maxRecDepth 20000 in
theorem ggX3_canBeGiven_X1_serves : GoodIn wsX3_canBeGiven wsX1_serves := goodIn_r _ [22, 23, 24, 29, 30, 31, 32, 33, 34, 35, 36] (by decide +kernel) (by decide +kernel)
set_option maxRecDepth 20000 in
theorem gX3_canBeGiven_X1_serves : GoodIn wsX3_canBeGiven (wsV RX3 63 RX1 yX1_serves wsX1_serves) := goodIn_app (goodIn_of _ (by decide +kernel)) ggX3_canBeGiven_X1_serves
theorem dX3_canBeGiven_0 : decode cX3_canBeGiven 0 = .ok (.aload_n 0, 1) := by decide +kernel
theorem dX3_canBeGiven_1 : decode cX3_canBeGiven 1 = .ok (.getfield 18, 3) := by decide +kernel
theorem dX3_canBeGiven_4 : decode cX3_canBeGiven 4 = .ok (.getfield 56, 3) := by decide +kernel
theorem dX3_canBeGiven_7 : decode cX3_canBeGiven 7 = .ok (.iload_n 1, 1) := by decide +kernel
theorem dX3_canBeGiven_8 : decode cX3_canBeGiven 8 = .ok (.iaload, 1) := by decide +kernel
theorem dX3_canBeGiven_9 : decode cX3_canBeGiven 9 = .ok (.ifCond .ne 39, 3) := by decide +kernel
theorem dX3_canBeGiven_12 : decode cX3_canBeGiven 12 = .ok (.aload_n 0, 1) := by decide +kernel
theorem dX3_canBeGiven_13 : decode cX3_canBeGiven 13 = .ok (.iload_n 1, 1) := by decide +kernel
theorem dX3_canBeGiven_14 : decode cX3_canBeGiven 14 = .ok (.invokevirtual 59, 3) := by decide +kernel
theorem dX3_canBeGiven_17 : decode cX3_canBeGiven 17 = .ok (.ifCond .eq 31, 3) := by decide +kernel
theorem dX3_canBeGiven_20 : decode cX3_canBeGiven 20 = .ok (.aload_n 0, 1) := by decide +kernel
theorem dX3_canBeGiven_21 : decode cX3_canBeGiven 21 = .ok (.getfield 18, 3) := by decide +kernel
theorem dX3_canBeGiven_24 : decode cX3_canBeGiven 24 = .ok (.iload_n 1, 1) := by decide +kernel
theorem dX3_canBeGiven_25 : decode cX3_canBeGiven 25 = .ok (.iload_n 2, 1) := by decide +kernel
theorem dX3_canBeGiven_26 : decode cX3_canBeGiven 26 = .ok (.invokevirtual 63, 3) := by decide +kernel
theorem dX3_canBeGiven_29 : decode cX3_canBeGiven 29 = .ok (.ifCond .eq 19, 3) := by decide +kernel
theorem dX3_canBeGiven_32 : decode cX3_canBeGiven 32 = .ok (.aload_n 0, 1) := by decide +kernel
theorem dX3_canBeGiven_33 : decode cX3_canBeGiven 33 = .ok (.getfield 18, 3) := by decide +kernel
theorem dX3_canBeGiven_36 : decode cX3_canBeGiven 36 = .ok (.iload_n 1, 1) := by decide +kernel
theorem dX3_canBeGiven_37 : decode cX3_canBeGiven 37 = .ok (.iload_n 3, 1) := by decide +kernel
theorem dX3_canBeGiven_38 : decode cX3_canBeGiven 38 = .ok (.invokevirtual 63, 3) := by decide +kernel
theorem dX3_canBeGiven_41 : decode cX3_canBeGiven 41 = .ok (.ifCond .eq 7, 3) := by decide +kernel
theorem dX3_canBeGiven_44 : decode cX3_canBeGiven 44 = .ok (.iconst 1, 1) := by decide +kernel
theorem dX3_canBeGiven_45 : decode cX3_canBeGiven 45 = .ok (.goto 4, 3) := by decide +kernel
theorem dX3_canBeGiven_48 : decode cX3_canBeGiven 48 = .ok (.iconst 0, 1) := by decide +kernel
theorem dX3_canBeGiven_49 : decode cX3_canBeGiven 49 = .ok (.ireturn, 1) := by decide +kernel
set_option maxRecDepth 20000 in
theorem ggX3_costOf_X0_stopsOf : GoodIn wsX3_costOf wsX0_stopsOf := goodIn_r _ [12, 13, 14, 15, 16, 17, 18, 11, 19, 20, 21, 22, 23, 24, 25, 53, 54, 55, 56, 57, 58, 59, 60, 61] (by decide +kernel) (by decide +kernel)
set_option maxRecDepth 20000 in
theorem gX3_costOf_X0_stopsOf : GoodIn wsX3_costOf (wsV RX3 74 RX0 yX0_stopsOf wsX0_stopsOf) := goodIn_app (goodIn_of _ (by decide +kernel)) ggX3_costOf_X0_stopsOf
set_option maxRecDepth 20000 in
theorem ggX3_costOf_J6_bitCount_0f7a4 : GoodIn wsX3_costOf wsJ6_bitCount_0f7a4 := goodIn_r _ [29, 30, 31, 32] (by decide +kernel) (by decide +kernel)
set_option maxRecDepth 20000 in
theorem gX3_costOf_J6_bitCount_0f7a4 : GoodIn wsX3_costOf (va_wsS RX3 77 yJ6_bitCount_0f7a4 wsJ6_bitCount_0f7a4) := goodIn_app (goodIn_of _ (by decide +kernel)) ggX3_costOf_J6_bitCount_0f7a4
set_option maxRecDepth 20000 in
theorem ggX3_costOf_X0_numberWith : GoodIn wsX3_costOf wsX0_numberWith := goodIn_r _ [36, 37, 38, 39, 11, 40, 13, 20, 21, 53, 54, 55, 56, 57, 58, 59, 60, 61] (by decide +kernel) (by decide +kernel)
set_option maxRecDepth 20000 in
theorem gX3_costOf_X0_numberWith : GoodIn wsX3_costOf (wsV RX3 82 RX0 yX0_numberWith wsX0_numberWith) := goodIn_app (goodIn_of _ (by decide +kernel)) ggX3_costOf_X0_numberWith
theorem dX3_costOf_0 : decode cX3_costOf 0 = .ok (.aload_n 0, 1) := by decide +kernel
theorem dX3_costOf_1 : decode cX3_costOf 1 = .ok (.getfield 18, 3) := by decide +kernel
theorem dX3_costOf_4 : decode cX3_costOf 4 = .ok (.getfield 67, 3) := by decide +kernel
theorem dX3_costOf_7 : decode cX3_costOf 7 = .ok (.iload_n 1, 1) := by decide +kernel
theorem dX3_costOf_8 : decode cX3_costOf 8 = .ok (.iaload, 1) := by decide +kernel
theorem dX3_costOf_9 : decode cX3_costOf 9 = .ok (.iload_n 2, 1) := by decide +kernel
theorem dX3_costOf_10 : decode cX3_costOf 10 = .ok (.isub, 1) := by decide +kernel
theorem dX3_costOf_11 : decode cX3_costOf 11 = .ok (.invokestatic 70, 3) := by decide +kernel
theorem dX3_costOf_14 : decode cX3_costOf 14 = .ok (.istore 4, 2) := by decide +kernel
theorem dX3_costOf_16 : decode cX3_costOf 16 = .ok (.aload_n 0, 1) := by decide +kernel
theorem dX3_costOf_17 : decode cX3_costOf 17 = .ok (.getfield 25, 3) := by decide +kernel
theorem dX3_costOf_20 : decode cX3_costOf 20 = .ok (.iload_n 1, 1) := by decide +kernel
theorem dX3_costOf_21 : decode cX3_costOf 21 = .ok (.invokevirtual 74, 3) := by decide +kernel
theorem dX3_costOf_24 : decode cX3_costOf 24 = .ok (.iconst 1, 1) := by decide +kernel
theorem dX3_costOf_25 : decode cX3_costOf 25 = .ok (.iload_n 2, 1) := by decide +kernel
theorem dX3_costOf_26 : decode cX3_costOf 26 = .ok (.ishl, 1) := by decide +kernel
theorem dX3_costOf_27 : decode cX3_costOf 27 = .ok (.ior, 1) := by decide +kernel
theorem dX3_costOf_28 : decode cX3_costOf 28 = .ok (.iconst 1, 1) := by decide +kernel
theorem dX3_costOf_29 : decode cX3_costOf 29 = .ok (.iload_n 3, 1) := by decide +kernel
theorem dX3_costOf_30 : decode cX3_costOf 30 = .ok (.ishl, 1) := by decide +kernel
theorem dX3_costOf_31 : decode cX3_costOf 31 = .ok (.ior, 1) := by decide +kernel
theorem dX3_costOf_32 : decode cX3_costOf 32 = .ok (.invokestatic 77, 3) := by decide +kernel
theorem dX3_costOf_35 : decode cX3_costOf 35 = .ok (.istore 5, 2) := by decide +kernel
theorem dX3_costOf_37 : decode cX3_costOf 37 = .ok (.iload 4, 2) := by decide +kernel
theorem dX3_costOf_39 : decode cX3_costOf 39 = .ok (.iconst 2, 1) := by decide +kernel
theorem dX3_costOf_40 : decode cX3_costOf 40 = .ok (.iload 5, 2) := by decide +kernel
theorem dX3_costOf_42 : decode cX3_costOf 42 = .ok (.imul, 1) := by decide +kernel
theorem dX3_costOf_43 : decode cX3_costOf 43 = .ok (.iadd, 1) := by decide +kernel
theorem dX3_costOf_44 : decode cX3_costOf 44 = .ok (.aload_n 0, 1) := by decide +kernel
theorem dX3_costOf_45 : decode cX3_costOf 45 = .ok (.getfield 25, 3) := by decide +kernel
theorem dX3_costOf_48 : decode cX3_costOf 48 = .ok (.iload_n 1, 1) := by decide +kernel
theorem dX3_costOf_49 : decode cX3_costOf 49 = .ok (.invokevirtual 82, 3) := by decide +kernel
theorem dX3_costOf_52 : decode cX3_costOf 52 = .ok (.iadd, 1) := by decide +kernel
theorem dX3_costOf_53 : decode cX3_costOf 53 = .ok (.ireturn, 1) := by decide +kernel
set_option maxRecDepth 20000 in
theorem ggX3_bestCar_X3_canBeGiven : GoodIn wsX3_bestCar wsX3_canBeGiven := goodIn_r _ [7, 1, 8, 9, 10, 11, 6, 12, 13, 14, 15, 16, 17, 18, 19, 20, 21, 22, 23, 24, 25, 26, 27, 28, 29, 73, 74, 75, 76, 77, 78, 79, 80, 81, 82, 83, 84] (by decide +kernel) (by decide +kernel)
set_option maxRecDepth 20000 in
theorem gX3_bestCar_X3_canBeGiven : GoodIn wsX3_bestCar (wsV RX3 88 RX3 yX3_canBeGiven wsX3_canBeGiven) := goodIn_app (goodIn_of _ (by decide +kernel)) ggX3_bestCar_X3_canBeGiven
set_option maxRecDepth 20000 in
theorem ggX3_bestCar_X3_costOf : GoodIn wsX3_bestCar wsX3_costOf := goodIn_r _ [33, 1, 34, 35, 36, 37, 38, 39, 40, 41, 42, 43, 44, 45, 46, 47, 48, 49, 50, 51, 52, 53, 54, 55, 56, 57, 58, 59, 60, 61, 62, 63, 64, 65, 66, 67, 68, 69, 70, 71, 72, 73, 74, 75, 76, 77, 78, 79, 80, 81, 82, 83, 84, 85, 86, 87, 88, 89, 90, 91, 92, 93] (by decide +kernel) (by decide +kernel)
set_option maxRecDepth 20000 in
theorem gX3_bestCar_X3_costOf : GoodIn wsX3_bestCar (wsV RX3 92 RX3 yX3_costOf wsX3_costOf) := goodIn_app (goodIn_of _ (by decide +kernel)) ggX3_bestCar_X3_costOf
theorem dX3_bestCar_0 : decode cX3_bestCar 0 = .ok (.bipush (-9), 2) := by decide +kernel
theorem dX3_bestCar_2 : decode cX3_bestCar 2 = .ok (.istore_n 3, 1) := by decide +kernel
theorem dX3_bestCar_3 : decode cX3_bestCar 3 = .ok (.iconst 0, 1) := by decide +kernel
theorem dX3_bestCar_4 : decode cX3_bestCar 4 = .ok (.istore 4, 2) := by decide +kernel
theorem dX3_bestCar_6 : decode cX3_bestCar 6 = .ok (.iconst 0, 1) := by decide +kernel
theorem dX3_bestCar_7 : decode cX3_bestCar 7 = .ok (.istore 5, 2) := by decide +kernel
theorem dX3_bestCar_9 : decode cX3_bestCar 9 = .ok (.iload 5, 2) := by decide +kernel
theorem dX3_bestCar_11 : decode cX3_bestCar 11 = .ok (.aload_n 0, 1) := by decide +kernel
theorem dX3_bestCar_12 : decode cX3_bestCar 12 = .ok (.getfield 18, 3) := by decide +kernel
theorem dX3_bestCar_15 : decode cX3_bestCar 15 = .ok (.getfield 85, 3) := by decide +kernel
theorem dX3_bestCar_18 : decode cX3_bestCar 18 = .ok (.if_icmp .ge 53, 3) := by decide +kernel
theorem dX3_bestCar_21 : decode cX3_bestCar 21 = .ok (.aload_n 0, 1) := by decide +kernel
theorem dX3_bestCar_22 : decode cX3_bestCar 22 = .ok (.iload 5, 2) := by decide +kernel
theorem dX3_bestCar_24 : decode cX3_bestCar 24 = .ok (.iload_n 1, 1) := by decide +kernel
theorem dX3_bestCar_25 : decode cX3_bestCar 25 = .ok (.iload_n 2, 1) := by decide +kernel
theorem dX3_bestCar_26 : decode cX3_bestCar 26 = .ok (.invokevirtual 88, 3) := by decide +kernel
theorem dX3_bestCar_29 : decode cX3_bestCar 29 = .ok (.ifCond .ne 6, 3) := by decide +kernel
theorem dX3_bestCar_32 : decode cX3_bestCar 32 = .ok (.goto 33, 3) := by decide +kernel
theorem dX3_bestCar_35 : decode cX3_bestCar 35 = .ok (.aload_n 0, 1) := by decide +kernel
theorem dX3_bestCar_36 : decode cX3_bestCar 36 = .ok (.iload 5, 2) := by decide +kernel
theorem dX3_bestCar_38 : decode cX3_bestCar 38 = .ok (.iload_n 1, 1) := by decide +kernel
theorem dX3_bestCar_39 : decode cX3_bestCar 39 = .ok (.iload_n 2, 1) := by decide +kernel
theorem dX3_bestCar_40 : decode cX3_bestCar 40 = .ok (.invokevirtual 92, 3) := by decide +kernel
theorem dX3_bestCar_43 : decode cX3_bestCar 43 = .ok (.istore 6, 2) := by decide +kernel
theorem dX3_bestCar_45 : decode cX3_bestCar 45 = .ok (.iload_n 3, 1) := by decide +kernel
theorem dX3_bestCar_46 : decode cX3_bestCar 46 = .ok (.bipush (-9), 2) := by decide +kernel
theorem dX3_bestCar_48 : decode cX3_bestCar 48 = .ok (.if_icmp .eq 10, 3) := by decide +kernel
theorem dX3_bestCar_51 : decode cX3_bestCar 51 = .ok (.iload 6, 2) := by decide +kernel
theorem dX3_bestCar_53 : decode cX3_bestCar 53 = .ok (.iload 4, 2) := by decide +kernel
theorem dX3_bestCar_55 : decode cX3_bestCar 55 = .ok (.if_icmp .ge 10, 3) := by decide +kernel
theorem dX3_bestCar_58 : decode cX3_bestCar 58 = .ok (.iload 5, 2) := by decide +kernel
theorem dX3_bestCar_60 : decode cX3_bestCar 60 = .ok (.istore_n 3, 1) := by decide +kernel
theorem dX3_bestCar_61 : decode cX3_bestCar 61 = .ok (.iload 6, 2) := by decide +kernel
theorem dX3_bestCar_63 : decode cX3_bestCar 63 = .ok (.istore 4, 2) := by decide +kernel
theorem dX3_bestCar_65 : decode cX3_bestCar 65 = .ok (.iinc 5 1, 3) := by decide +kernel
theorem dX3_bestCar_68 : decode cX3_bestCar 68 = .ok (.goto (-59), 3) := by decide +kernel
theorem dX3_bestCar_71 : decode cX3_bestCar 71 = .ok (.iload_n 3, 1) := by decide +kernel
theorem dX3_bestCar_72 : decode cX3_bestCar 72 = .ok (.ireturn, 1) := by decide +kernel
set_option maxRecDepth 20000 in
theorem ggX3_oneTick_X3_bestCar : GoodIn wsX3_oneTick wsX3_bestCar := goodIn_r _ [14, 6, 7, 15, 16, 17, 13, 18, 8, 19, 20, 21, 22, 23, 24, 25, 26, 27, 9, 28, 29, 30, 31, 32, 33, 34, 35, 36, 37, 38, 39, 40, 41, 42, 43, 44, 45, 46, 47, 1, 48, 49, 50, 51, 52, 53, 54, 55, 56, 57, 58, 59, 60, 61, 62, 63, 64, 65, 66, 67, 68, 69, 70, 71, 72, 73, 74, 75, 76, 77, 78, 79, 80, 120, 121, 122, 123, 133, 134, 135, 136, 137, 138, 139, 140, 124, 125, 126, 127, 128, 129, 130, 131, 132] (by decide +kernel) (by decide +kernel)
set_option maxRecDepth 20000 in
theorem gX3_oneTick_X3_bestCar : GoodIn wsX3_oneTick (wsV RX3 104 RX3 yX3_bestCar wsX3_bestCar) := goodIn_app (goodIn_of _ (by decide +kernel)) ggX3_oneTick_X3_bestCar
set_option maxRecDepth 20000 in
theorem ggX3_oneTick_X0_give : GoodIn wsX3_oneTick wsX0_give := goodIn_r _ [84, 60, 61, 85, 86, 87, 88, 51, 89, 53, 124, 125, 126, 127, 128, 129, 130, 131, 132] (by decide +kernel) (by decide +kernel)
set_option maxRecDepth 20000 in
theorem gX3_oneTick_X0_give : GoodIn wsX3_oneTick (wsV RX3 107 RX0 yX0_give wsX0_give) := goodIn_app (goodIn_of _ (by decide +kernel)) ggX3_oneTick_X0_give
set_option maxRecDepth 20000 in
theorem ggX3_oneTick_X3_stopOrTravel : GoodIn wsX3_oneTick wsX3_stopOrTravel := goodIn_r _ [93, 6, 43, 1, 9, 94, 95, 96, 97, 98, 51, 99, 53, 55, 60, 100, 62, 63, 64, 65, 61, 101, 102, 103, 104, 54, 105, 77, 78, 79, 80, 56, 57, 58, 59, 106, 107, 108, 109, 110, 111, 112, 113, 45, 46, 47, 114, 115, 116, 35, 117, 118, 119, 120, 121, 122, 123, 133, 134, 135, 136, 137, 138, 139, 140, 124, 125, 126, 127, 128, 129, 130, 131, 132] (by decide +kernel) (by decide +kernel)
set_option maxRecDepth 20000 in
theorem gX3_oneTick_X3_stopOrTravel : GoodIn wsX3_oneTick (wsV RX3 111 RX3 yX3_stopOrTravel wsX3_stopOrTravel) := goodIn_app (goodIn_of _ (by decide +kernel)) ggX3_oneTick_X3_stopOrTravel
theorem dX3_oneTick_0 : decode cX3_oneTick 0 = .ok (.iconst 0, 1) := by decide +kernel
theorem dX3_oneTick_1 : decode cX3_oneTick 1 = .ok (.istore_n 1, 1) := by decide +kernel
theorem dX3_oneTick_2 : decode cX3_oneTick 2 = .ok (.iload_n 1, 1) := by decide +kernel
theorem dX3_oneTick_3 : decode cX3_oneTick 3 = .ok (.aload_n 0, 1) := by decide +kernel
theorem dX3_oneTick_4 : decode cX3_oneTick 4 = .ok (.getfield 25, 3) := by decide +kernel
theorem dX3_oneTick_7 : decode cX3_oneTick 7 = .ok (.getfield 96, 3) := by decide +kernel
theorem dX3_oneTick_10 : decode cX3_oneTick 10 = .ok (.if_icmp .ge 51, 3) := by decide +kernel
theorem dX3_oneTick_13 : decode cX3_oneTick 13 = .ok (.aload_n 0, 1) := by decide +kernel
theorem dX3_oneTick_14 : decode cX3_oneTick 14 = .ok (.getfield 25, 3) := by decide +kernel
theorem dX3_oneTick_17 : decode cX3_oneTick 17 = .ok (.getfield 97, 3) := by decide +kernel
theorem dX3_oneTick_20 : decode cX3_oneTick 20 = .ok (.iload_n 1, 1) := by decide +kernel
theorem dX3_oneTick_21 : decode cX3_oneTick 21 = .ok (.iaload, 1) := by decide +kernel
theorem dX3_oneTick_22 : decode cX3_oneTick 22 = .ok (.ifCond .ne 33, 3) := by decide +kernel
theorem dX3_oneTick_25 : decode cX3_oneTick 25 = .ok (.aload_n 0, 1) := by decide +kernel
theorem dX3_oneTick_26 : decode cX3_oneTick 26 = .ok (.getfield 25, 3) := by decide +kernel
theorem dX3_oneTick_29 : decode cX3_oneTick 29 = .ok (.iload_n 1, 1) := by decide +kernel
theorem dX3_oneTick_30 : decode cX3_oneTick 30 = .ok (.aload_n 0, 1) := by decide +kernel
theorem dX3_oneTick_31 : decode cX3_oneTick 31 = .ok (.aload_n 0, 1) := by decide +kernel
theorem dX3_oneTick_32 : decode cX3_oneTick 32 = .ok (.getfield 25, 3) := by decide +kernel
theorem dX3_oneTick_35 : decode cX3_oneTick 35 = .ok (.getfield 100, 3) := by decide +kernel
theorem dX3_oneTick_38 : decode cX3_oneTick 38 = .ok (.iload_n 1, 1) := by decide +kernel
theorem dX3_oneTick_39 : decode cX3_oneTick 39 = .ok (.iaload, 1) := by decide +kernel
theorem dX3_oneTick_40 : decode cX3_oneTick 40 = .ok (.aload_n 0, 1) := by decide +kernel
theorem dX3_oneTick_41 : decode cX3_oneTick 41 = .ok (.getfield 25, 3) := by decide +kernel
theorem dX3_oneTick_44 : decode cX3_oneTick 44 = .ok (.getfield 101, 3) := by decide +kernel
theorem dX3_oneTick_47 : decode cX3_oneTick 47 = .ok (.iload_n 1, 1) := by decide +kernel
theorem dX3_oneTick_48 : decode cX3_oneTick 48 = .ok (.iaload, 1) := by decide +kernel
theorem dX3_oneTick_49 : decode cX3_oneTick 49 = .ok (.invokevirtual 104, 3) := by decide +kernel
theorem dX3_oneTick_52 : decode cX3_oneTick 52 = .ok (.invokevirtual 107, 3) := by decide +kernel
theorem dX3_oneTick_55 : decode cX3_oneTick 55 = .ok (.iinc 1 1, 3) := by decide +kernel
theorem dX3_oneTick_58 : decode cX3_oneTick 58 = .ok (.goto (-56), 3) := by decide +kernel
theorem dX3_oneTick_61 : decode cX3_oneTick 61 = .ok (.iconst 0, 1) := by decide +kernel
theorem dX3_oneTick_62 : decode cX3_oneTick 62 = .ok (.istore_n 1, 1) := by decide +kernel
theorem dX3_oneTick_63 : decode cX3_oneTick 63 = .ok (.iload_n 1, 1) := by decide +kernel
theorem dX3_oneTick_64 : decode cX3_oneTick 64 = .ok (.aload_n 0, 1) := by decide +kernel
theorem dX3_oneTick_65 : decode cX3_oneTick 65 = .ok (.getfield 18, 3) := by decide +kernel
theorem dX3_oneTick_68 : decode cX3_oneTick 68 = .ok (.getfield 85, 3) := by decide +kernel
theorem dX3_oneTick_71 : decode cX3_oneTick 71 = .ok (.if_icmp .ge 26, 3) := by decide +kernel
theorem dX3_oneTick_74 : decode cX3_oneTick 74 = .ok (.aload_n 0, 1) := by decide +kernel
theorem dX3_oneTick_75 : decode cX3_oneTick 75 = .ok (.getfield 18, 3) := by decide +kernel
theorem dX3_oneTick_78 : decode cX3_oneTick 78 = .ok (.getfield 56, 3) := by decide +kernel
theorem dX3_oneTick_81 : decode cX3_oneTick 81 = .ok (.iload_n 1, 1) := by decide +kernel
theorem dX3_oneTick_82 : decode cX3_oneTick 82 = .ok (.iaload, 1) := by decide +kernel
theorem dX3_oneTick_83 : decode cX3_oneTick 83 = .ok (.ifCond .ne 8, 3) := by decide +kernel
theorem dX3_oneTick_86 : decode cX3_oneTick 86 = .ok (.aload_n 0, 1) := by decide +kernel
theorem dX3_oneTick_87 : decode cX3_oneTick 87 = .ok (.iload_n 1, 1) := by decide +kernel
theorem dX3_oneTick_88 : decode cX3_oneTick 88 = .ok (.invokevirtual 111, 3) := by decide +kernel
theorem dX3_oneTick_91 : decode cX3_oneTick 91 = .ok (.iinc 1 1, 3) := by decide +kernel
theorem dX3_oneTick_94 : decode cX3_oneTick 94 = .ok (.goto (-31), 3) := by decide +kernel
theorem dX3_oneTick_97 : decode cX3_oneTick 97 = .ok (.aload_n 0, 1) := by decide +kernel
theorem dX3_oneTick_98 : decode cX3_oneTick 98 = .ok (.dup, 1) := by decide +kernel
theorem dX3_oneTick_99 : decode cX3_oneTick 99 = .ok (.getfield 29, 3) := by decide +kernel
theorem dX3_oneTick_102 : decode cX3_oneTick 102 = .ok (.iconst 1, 1) := by decide +kernel
theorem dX3_oneTick_103 : decode cX3_oneTick 103 = .ok (.iadd, 1) := by decide +kernel
theorem dX3_oneTick_104 : decode cX3_oneTick 104 = .ok (.putfield 29, 3) := by decide +kernel
theorem dX3_oneTick_107 : decode cX3_oneTick 107 = .ok (.return_, 1) := by decide +kernel
set_option maxRecDepth 20000 in
theorem ggX3_stopOrTravel_X0_letOut : GoodIn wsX3_stopOrTravel wsX0_letOut := goodIn_r _ [11, 12, 13, 14, 15, 16, 17, 18, 10, 19, 20, 65, 66, 67, 68, 69, 70, 71, 72, 73] (by decide +kernel) (by decide +kernel)
set_option maxRecDepth 20000 in
theorem gX3_stopOrTravel_X0_letOut : GoodIn wsX3_stopOrTravel (wsV RX3 115 RX0 yX0_letOut wsX0_letOut) := goodIn_app (goodIn_of _ (by decide +kernel)) ggX3_stopOrTravel_X0_letOut
set_option maxRecDepth 20000 in
theorem ggX3_stopOrTravel_X0_takeIn : GoodIn wsX3_stopOrTravel wsX0_takeIn := goodIn_r _ [24, 12, 25, 14, 26, 27, 28, 29, 10, 30, 20, 31, 32, 33, 34, 65, 66, 67, 68, 69, 70, 71, 72, 73] (by decide +kernel) (by decide +kernel)
set_option maxRecDepth 20000 in
theorem gX3_stopOrTravel_X0_takeIn : GoodIn wsX3_stopOrTravel (wsV RX3 121 RX0 yX0_takeIn wsX0_takeIn) := goodIn_app (goodIn_of _ (by decide +kernel)) ggX3_stopOrTravel_X0_takeIn
set_option maxRecDepth 20000 in
theorem ggX3_stopOrTravel_X0_aimOf : GoodIn wsX3_stopOrTravel wsX0_aimOf := goodIn_r _ [38, 12, 13, 25, 16, 17, 18, 10, 19, 14, 20, 39, 40, 41, 42, 43, 44, 45, 31, 32, 33, 34, 65, 66, 67, 68, 69, 70, 71, 72, 73] (by decide +kernel) (by decide +kernel)
set_option maxRecDepth 20000 in
theorem gX3_stopOrTravel_X0_aimOf : GoodIn wsX3_stopOrTravel (wsV RX3 128 RX0 yX0_aimOf wsX0_aimOf) := goodIn_app (goodIn_of _ (by decide +kernel)) ggX3_stopOrTravel_X0_aimOf
set_option maxRecDepth 20000 in
theorem ggX3_stopOrTravel_X1_travelTowards : GoodIn wsX3_stopOrTravel wsX1_travelTowards := goodIn_r _ [50, 51, 52, 57, 58, 59, 60, 61, 62, 63, 64] (by decide +kernel) (by decide +kernel)
set_option maxRecDepth 20000 in
theorem gX3_stopOrTravel_X1_travelTowards : GoodIn wsX3_stopOrTravel (wsV RX3 131 RX1 yX1_travelTowards wsX1_travelTowards) := goodIn_app (goodIn_of _ (by decide +kernel)) ggX3_stopOrTravel_X1_travelTowards
theorem dX3_stopOrTravel_0 : decode cX3_stopOrTravel 0 = .ok (.aload_n 0, 1) := by decide +kernel
theorem dX3_stopOrTravel_1 : decode cX3_stopOrTravel 1 = .ok (.getfield 18, 3) := by decide +kernel
theorem dX3_stopOrTravel_4 : decode cX3_stopOrTravel 4 = .ok (.getfield 67, 3) := by decide +kernel
theorem dX3_stopOrTravel_7 : decode cX3_stopOrTravel 7 = .ok (.iload_n 1, 1) := by decide +kernel
theorem dX3_stopOrTravel_8 : decode cX3_stopOrTravel 8 = .ok (.iaload, 1) := by decide +kernel
theorem dX3_stopOrTravel_9 : decode cX3_stopOrTravel 9 = .ok (.istore_n 2, 1) := by decide +kernel
theorem dX3_stopOrTravel_10 : decode cX3_stopOrTravel 10 = .ok (.aload_n 0, 1) := by decide +kernel
theorem dX3_stopOrTravel_11 : decode cX3_stopOrTravel 11 = .ok (.getfield 25, 3) := by decide +kernel
theorem dX3_stopOrTravel_14 : decode cX3_stopOrTravel 14 = .ok (.iload_n 1, 1) := by decide +kernel
theorem dX3_stopOrTravel_15 : decode cX3_stopOrTravel 15 = .ok (.iload_n 2, 1) := by decide +kernel
theorem dX3_stopOrTravel_16 : decode cX3_stopOrTravel 16 = .ok (.aload_n 0, 1) := by decide +kernel
theorem dX3_stopOrTravel_17 : decode cX3_stopOrTravel 17 = .ok (.getfield 29, 3) := by decide +kernel
theorem dX3_stopOrTravel_20 : decode cX3_stopOrTravel 20 = .ok (.invokevirtual 115, 3) := by decide +kernel
theorem dX3_stopOrTravel_23 : decode cX3_stopOrTravel 23 = .ok (.istore_n 3, 1) := by decide +kernel
theorem dX3_stopOrTravel_24 : decode cX3_stopOrTravel 24 = .ok (.aload_n 0, 1) := by decide +kernel
theorem dX3_stopOrTravel_25 : decode cX3_stopOrTravel 25 = .ok (.getfield 25, 3) := by decide +kernel
theorem dX3_stopOrTravel_28 : decode cX3_stopOrTravel 28 = .ok (.iload_n 1, 1) := by decide +kernel
theorem dX3_stopOrTravel_29 : decode cX3_stopOrTravel 29 = .ok (.iload_n 2, 1) := by decide +kernel
theorem dX3_stopOrTravel_30 : decode cX3_stopOrTravel 30 = .ok (.aload_n 0, 1) := by decide +kernel
theorem dX3_stopOrTravel_31 : decode cX3_stopOrTravel 31 = .ok (.getfield 18, 3) := by decide +kernel
theorem dX3_stopOrTravel_34 : decode cX3_stopOrTravel 34 = .ok (.getfield 118, 3) := by decide +kernel
theorem dX3_stopOrTravel_37 : decode cX3_stopOrTravel 37 = .ok (.iload_n 1, 1) := by decide +kernel
theorem dX3_stopOrTravel_38 : decode cX3_stopOrTravel 38 = .ok (.iaload, 1) := by decide +kernel
theorem dX3_stopOrTravel_39 : decode cX3_stopOrTravel 39 = .ok (.aload_n 0, 1) := by decide +kernel
theorem dX3_stopOrTravel_40 : decode cX3_stopOrTravel 40 = .ok (.getfield 29, 3) := by decide +kernel
theorem dX3_stopOrTravel_43 : decode cX3_stopOrTravel 43 = .ok (.invokevirtual 121, 3) := by decide +kernel
theorem dX3_stopOrTravel_46 : decode cX3_stopOrTravel 46 = .ok (.istore 4, 2) := by decide +kernel
theorem dX3_stopOrTravel_48 : decode cX3_stopOrTravel 48 = .ok (.iload_n 3, 1) := by decide +kernel
theorem dX3_stopOrTravel_49 : decode cX3_stopOrTravel 49 = .ok (.iload 4, 2) := by decide +kernel
theorem dX3_stopOrTravel_51 : decode cX3_stopOrTravel 51 = .ok (.iadd, 1) := by decide +kernel
theorem dX3_stopOrTravel_52 : decode cX3_stopOrTravel 52 = .ok (.ifCond .le 17, 3) := by decide +kernel
theorem dX3_stopOrTravel_55 : decode cX3_stopOrTravel 55 = .ok (.aload_n 0, 1) := by decide +kernel
theorem dX3_stopOrTravel_56 : decode cX3_stopOrTravel 56 = .ok (.getfield 18, 3) := by decide +kernel
theorem dX3_stopOrTravel_59 : decode cX3_stopOrTravel 59 = .ok (.dup, 1) := by decide +kernel
theorem dX3_stopOrTravel_60 : decode cX3_stopOrTravel 60 = .ok (.getfield 125, 3) := by decide +kernel
theorem dX3_stopOrTravel_63 : decode cX3_stopOrTravel 63 = .ok (.iconst 1, 1) := by decide +kernel
theorem dX3_stopOrTravel_64 : decode cX3_stopOrTravel 64 = .ok (.iadd, 1) := by decide +kernel
theorem dX3_stopOrTravel_65 : decode cX3_stopOrTravel 65 = .ok (.putfield 125, 3) := by decide +kernel
theorem dX3_stopOrTravel_68 : decode cX3_stopOrTravel 68 = .ok (.return_, 1) := by decide +kernel
theorem dX3_stopOrTravel_69 : decode cX3_stopOrTravel 69 = .ok (.aload_n 0, 1) := by decide +kernel
theorem dX3_stopOrTravel_70 : decode cX3_stopOrTravel 70 = .ok (.getfield 25, 3) := by decide +kernel
theorem dX3_stopOrTravel_73 : decode cX3_stopOrTravel 73 = .ok (.iload_n 1, 1) := by decide +kernel
theorem dX3_stopOrTravel_74 : decode cX3_stopOrTravel 74 = .ok (.iload_n 2, 1) := by decide +kernel
theorem dX3_stopOrTravel_75 : decode cX3_stopOrTravel 75 = .ok (.invokevirtual 128, 3) := by decide +kernel
theorem dX3_stopOrTravel_78 : decode cX3_stopOrTravel 78 = .ok (.istore 5, 2) := by decide +kernel
theorem dX3_stopOrTravel_80 : decode cX3_stopOrTravel 80 = .ok (.iload 5, 2) := by decide +kernel
theorem dX3_stopOrTravel_82 : decode cX3_stopOrTravel 82 = .ok (.bipush (-9), 2) := by decide +kernel
theorem dX3_stopOrTravel_84 : decode cX3_stopOrTravel 84 = .ok (.if_icmp .eq 13, 3) := by decide +kernel
theorem dX3_stopOrTravel_87 : decode cX3_stopOrTravel 87 = .ok (.aload_n 0, 1) := by decide +kernel
theorem dX3_stopOrTravel_88 : decode cX3_stopOrTravel 88 = .ok (.getfield 18, 3) := by decide +kernel
theorem dX3_stopOrTravel_91 : decode cX3_stopOrTravel 91 = .ok (.iload_n 1, 1) := by decide +kernel
theorem dX3_stopOrTravel_92 : decode cX3_stopOrTravel 92 = .ok (.iload 5, 2) := by decide +kernel
theorem dX3_stopOrTravel_94 : decode cX3_stopOrTravel 94 = .ok (.invokevirtual 131, 3) := by decide +kernel
theorem dX3_stopOrTravel_97 : decode cX3_stopOrTravel 97 = .ok (.return_, 1) := by decide +kernel
set_option maxRecDepth 20000 in
theorem ggX3_breakCar_X0_loseCar : GoodIn wsX3_breakCar wsX0_loseCar := goodIn_r _ [10, 11, 12, 13, 14, 15, 16, 17, 18, 19, 9, 20, 21, 22, 23, 24, 37, 38, 39, 40, 41, 42, 43, 44, 45] (by decide +kernel) (by decide +kernel)
set_option maxRecDepth 20000 in
theorem gX3_breakCar_X0_loseCar : GoodIn wsX3_breakCar (wsV RX3 134 RX0 yX0_loseCar wsX0_loseCar) := goodIn_app (goodIn_of _ (by decide +kernel)) ggX3_breakCar_X0_loseCar
theorem dX3_breakCar_0 : decode cX3_breakCar 0 = .ok (.aload_n 0, 1) := by decide +kernel
theorem dX3_breakCar_1 : decode cX3_breakCar 1 = .ok (.getfield 18, 3) := by decide +kernel
theorem dX3_breakCar_4 : decode cX3_breakCar 4 = .ok (.getfield 56, 3) := by decide +kernel
theorem dX3_breakCar_7 : decode cX3_breakCar 7 = .ok (.iload_n 1, 1) := by decide +kernel
theorem dX3_breakCar_8 : decode cX3_breakCar 8 = .ok (.iconst 2, 1) := by decide +kernel
theorem dX3_breakCar_9 : decode cX3_breakCar 9 = .ok (.iastore, 1) := by decide +kernel
theorem dX3_breakCar_10 : decode cX3_breakCar 10 = .ok (.aload_n 0, 1) := by decide +kernel
theorem dX3_breakCar_11 : decode cX3_breakCar 11 = .ok (.getfield 25, 3) := by decide +kernel
theorem dX3_breakCar_14 : decode cX3_breakCar 14 = .ok (.iload_n 1, 1) := by decide +kernel
theorem dX3_breakCar_15 : decode cX3_breakCar 15 = .ok (.aload_n 0, 1) := by decide +kernel
theorem dX3_breakCar_16 : decode cX3_breakCar 16 = .ok (.getfield 18, 3) := by decide +kernel
theorem dX3_breakCar_19 : decode cX3_breakCar 19 = .ok (.getfield 67, 3) := by decide +kernel
theorem dX3_breakCar_22 : decode cX3_breakCar 22 = .ok (.iload_n 1, 1) := by decide +kernel
theorem dX3_breakCar_23 : decode cX3_breakCar 23 = .ok (.iaload, 1) := by decide +kernel
theorem dX3_breakCar_24 : decode cX3_breakCar 24 = .ok (.aload_n 0, 1) := by decide +kernel
theorem dX3_breakCar_25 : decode cX3_breakCar 25 = .ok (.getfield 29, 3) := by decide +kernel
theorem dX3_breakCar_28 : decode cX3_breakCar 28 = .ok (.invokevirtual 134, 3) := by decide +kernel
theorem dX3_breakCar_31 : decode cX3_breakCar 31 = .ok (.return_, 1) := by decide +kernel
set_option maxRecDepth 20000 in
theorem ggX4_init_X3_init : GoodIn wsX4_init wsX3_init := goodIn_r _ [15, 16, 2, 3, 17, 18, 19, 20, 21, 22, 23, 24, 25, 26, 27, 28, 29, 30, 31, 32, 33, 34, 35, 36, 37, 38, 39, 40, 41, 42, 43, 44, 45, 46, 54, 55, 56, 57, 64, 65, 66, 67, 68, 69, 70, 71, 72, 73, 74, 75, 76, 77, 78, 79, 80] (by decide +kernel) (by decide +kernel)
set_option maxRecDepth 20000 in
theorem gX4_init_X3_init : GoodIn wsX4_init (wsX3_init) := ggX4_init_X3_init
set_option maxRecDepth 20000 in
theorem ggX4_init_X2_init : GoodIn wsX4_init wsX2_init := goodIn_r _ [49, 50, 2, 3, 51, 52, 5, 6, 53, 14, 15, 16, 17, 18, 19, 20, 21, 22, 23, 24, 25, 26, 27, 28, 29, 30, 31, 32, 33, 34, 35, 36, 37, 38, 39, 40, 41, 42, 43, 44, 45, 46, 61, 62, 63, 54, 55, 56, 57, 64, 65, 66, 67, 68, 69, 70, 71, 72, 73, 74, 75, 76, 77, 78, 79, 80] (by decide +kernel) (by decide +kernel)
set_option maxRecDepth 20000 in
theorem gX4_init_X2_init : GoodIn wsX4_init (wsX2_init) := ggX4_init_X2_init
end
section
/-! ===== the flat memory: a world of cells whose whole contents are one function M of numbers; 'lay' says which number stands where ===== -/
/-- a cell: a row of numbers (how long, which number at each place), an object (its class, its fields: a number or a cell), a row of cells -/
abbrev gl_Ce : Type := (Nat × (Nat → Nat)) ⊕ ((Nat × List (Nat ⊕ Nat)) ⊕ (Nat × (Nat → Nat)))
/-- launch, classes and slots, class of int[], class of House[], addresses -/
abbrev gl_F : Type := Launch × va_G × ClassId × ClassId × (Nat → Nat)
def gl_r (F : gl_F) : Nat → Nat := F.2.2.2.2
def gl_v (F : gl_F) (M : Nat → Int32) : Nat ⊕ Nat → Value
  | .inl i => .int (M i)
  | .inr c => .ref (gl_r F c)
def gl_e (F : gl_F) (M : Nat → Int32) : gl_Ce → va_E
  | .inl (n, f) => .inl (F.2.2.1, n, .inl (fun i => if i < n then M (f i) else 0))
  | .inr (.inl (ci, fs)) => .inr (ci, fs.map (gl_v F M))
  | .inr (.inr (n, g)) => .inl (F.2.2.2.1, n, .inr (.inr (.inr (.inr (fun i => some (gl_r F (g i)))))))
def gl_w (F : gl_F) (lay : List gl_Ce) (M : Nat → Int32) : va_W := lay.mapIdx (fun j c => (gl_r F j, gl_e F M c))
def gl_A (F : gl_F) (lay : List gl_Ce) : Nat → Prop := fun q => ∃ j, j < lay.length ∧ q = gl_r F j
def gl_inj (F : gl_F) (lay : List gl_Ce) : Prop := ∀ i j, i < lay.length → j < lay.length → gl_r F i = gl_r F j → i = j
def gl_tys (F : gl_F) : List (ClassId × FieldType) := [(F.2.2.1, .int), (F.2.2.2.1, .object "GoalLifts$House")]
/-- the number that stands at place k of a cell -/
def gl_at : gl_Ce → Nat → Option Nat
  | .inl (n, f), k => if k < n then some (f k) else none
  | .inr (.inl (_, fs)), k => match fs[k]? with
    | some (.inl i) => some i
    | _ => none
  | .inr (.inr _), _ => none
def gl_sz : gl_Ce → Nat
  | .inl (n, _) => n
  | .inr (.inl (_, fs)) => fs.length
  | .inr (.inr (n, _)) => n
/-- no number stands twice; the rows are of a size that an index reaches -/
def gl_ok (lay : List gl_Ce) : Prop := (∃ ow : Nat → Nat × Nat, ∀ (j : Nat) (c : gl_Ce) (k i : Nat), lay[j]? = some c → gl_at c k = some i → ow i = (j, k)) ∧ ∀ (j : Nat) (c : gl_Ce), lay[j]? = some c → gl_sz c < 2 ^ 31
def gl_chk (ow : Nat → Nat × Nat) (lay : List gl_Ce) : Bool :=
  lay.zipIdx.all (fun q => decide (gl_sz q.1 < 2147483648) && (List.range (gl_sz q.1)).all fun k => match gl_at q.1 k with
    | some i => decide (ow i = (q.2, k))
    | none => true)
theorem gl_at_lt {c : gl_Ce} {k i : Nat} (h : gl_at c k = some i) : k < gl_sz c := by
  obtain ⟨n, f⟩ | ⟨ci, fs⟩ | ⟨n, g⟩ := c
  · simp only [gl_at] at h
    by_cases hk : k < n
    · exact hk
    · rw [if_neg hk] at h; cases h
  · simp only [gl_at] at h
    cases hf : fs[k]? with
    | none => rw [hf] at h; cases h
    | some x => exact (List.getElem?_eq_some_iff.mp hf).1
  · simp [gl_at] at h
theorem gl_ok_of {ow : Nat → Nat × Nat} {lay : List gl_Ce} (h : gl_chk ow lay = true) : gl_ok lay := by
  have hm : ∀ (j : Nat) (c : gl_Ce), lay[j]? = some c → (c, j) ∈ lay.zipIdx := by
    intro j c hj
    exact List.mk_mem_zipIdx_iff_getElem?.mpr hj
  refine ⟨⟨ow, fun j c k i hj hk => ?_⟩, fun j c hj => ?_⟩
  · have h1 := List.all_eq_true.mp h _ (hm j c hj)
    simp only [Bool.and_eq_true] at h1
    have h2 := List.all_eq_true.mp h1.2 k (List.mem_range.mpr (gl_at_lt hk))
    rw [hk] at h2
    simpa using h2
  · have h1 := List.all_eq_true.mp h _ (hm j c hj)
    simp only [Bool.and_eq_true, decide_eq_true_eq] at h1
    exact h1.1
theorem gl_w_at {F : gl_F} {lay : List gl_Ce} {M : Nat → Int32} {j : Nat} {c : gl_Ce} (h : lay[j]? = some c) : (gl_w F lay M)[j]? = some (gl_r F j, gl_e F M c) := by
  unfold gl_w
  rw [List.getElem?_mapIdx, h]
  rfl
theorem gl_w_len {F : gl_F} {lay : List gl_Ce} {M : Nat → Int32} : (gl_w F lay M).length = lay.length := by
  unfold gl_w
  exact List.length_mapIdx
theorem gl_w_inv {F : gl_F} {lay : List gl_Ce} {M : Nat → Int32} {j : Nat} {q : Nat × va_E} (h : (gl_w F lay M)[j]? = some q) : ∃ c, lay[j]? = some c ∧ q = (gl_r F j, gl_e F M c) := by
  unfold gl_w at h
  rw [List.getElem?_mapIdx] at h
  cases hc : lay[j]? with
  | none => rw [hc] at h; cases h
  | some c => rw [hc] at h; exact ⟨c, rfl, (Option.some.inj h).symm⟩
/-- a number that isn't in a cell can change -/
theorem gl_e_upd {F : gl_F} {M M' : Nat → Int32} {c : gl_Ce} (h : ∀ k i, gl_at c k = some i → M' i = M i) : gl_e F M' c = gl_e F M c := by
  obtain ⟨n, f⟩ | ⟨ci, fs⟩ | ⟨n, g⟩ := c
  · have e : (fun i => if i < n then M' (f i) else 0) = (fun i => if i < n then M (f i) else 0) := by
      funext i
      by_cases hi : i < n
      · rw [if_pos hi, if_pos hi]
        exact h i (f i) (by simp only [gl_at]; rw [if_pos hi])
      · rw [if_neg hi, if_neg hi]
    simp only [gl_e, e]
  · have e : fs.map (gl_v F M') = fs.map (gl_v F M) := by
      apply List.ext_getElem?
      intro k
      rw [List.getElem?_map, List.getElem?_map]
      cases hf : fs[k]? with
      | none => rfl
      | some x =>
        cases x with
        | inl i =>
          have := h k i (by simp only [gl_at]; rw [hf])
          simp only [Option.map_some, gl_v, this]
        | inr c => rfl
    simp only [gl_e, e]
  · rfl
theorem gl_upd_ne {M : Nat → Int32} {i j : Nat} {x : Int32} (h : j ≠ i) : upd M i x j = M j := by
  unfold upd
  rw [if_neg h]
theorem gl_upd_eq {M : Nat → Int32} {i : Nat} {x : Int32} : upd M i x i = x := by
  unfold upd
  rw [if_pos rfl]
theorem gl_set_arr {F : gl_F} {lay : List gl_Ce} {M : Nat → Int32} (hok : gl_ok lay) {j n k : Nat} {f : Nat → Nat} (hj : lay[j]? = some (.inl (n, f))) (hk : k < n) (x : Int32) :
    (gl_w F lay M).set j (gl_r F j, .inl (F.2.2.1, n, .inl (upd (fun i => if i < n then M (f i) else 0) k x))) = gl_w F lay (upd M (f k) x) := by
  obtain ⟨⟨ow, how⟩, -⟩ := hok
  have h0 : ow (f k) = (j, k) := how j _ k (f k) hj (by simp only [gl_at]; rw [if_pos hk])
  apply List.ext_getElem?
  intro j'
  by_cases hjj : j' = j
  · subst hjj
    rw [List.getElem?_set_self (by rw [gl_w_len]; exact (List.getElem?_eq_some_iff.mp hj).1), gl_w_at hj]
    have e : upd (fun i => if i < n then M (f i) else 0) k x = (fun i => if i < n then upd M (f k) x (f i) else 0) := by
      funext i
      unfold upd
      by_cases hi : i = k
      · subst hi
        rw [if_pos rfl, if_pos hk, if_pos rfl]
      · rw [if_neg hi]
        by_cases hin : i < n
        · show (if i < n then M (f i) else 0) = _
          rw [if_pos hin, if_pos hin, if_neg]
          intro hf
          have h1 : ow (f i) = (j', i) := how j' _ i (f i) hj (by simp only [gl_at]; rw [if_pos hin])
          rw [hf, h0] at h1
          exact hi (Prod.mk.inj h1).2.symm
        · show (if i < n then M (f i) else 0) = _
          rw [if_neg hin, if_neg hin]
    simp only [gl_e, e]
  · rw [List.getElem?_set_ne (Ne.symm hjj)]
    cases hc : lay[j']? with
    | none =>
      rw [List.getElem?_eq_none (by rw [gl_w_len]; exact List.getElem?_eq_none_iff.mp hc), List.getElem?_eq_none (by rw [gl_w_len]; exact List.getElem?_eq_none_iff.mp hc)]
    | some c =>
      rw [gl_w_at hc, gl_w_at hc]
      rw [gl_e_upd (c := c) (M := M) (M' := upd M (f k) x)]
      intro k' i hi
      apply gl_upd_ne
      intro e
      have h1 := how j' c k' i hc hi
      rw [e, h0] at h1
      exact hjj (Prod.mk.inj h1).1.symm
theorem gl_set_fld {F : gl_F} {lay : List gl_Ce} {M : Nat → Int32} (hok : gl_ok lay) {j ci k i : Nat} {fs : List (Nat ⊕ Nat)} (hj : lay[j]? = some (.inr (.inl (ci, fs)))) (hk : fs[k]? = some (.inl i)) (x : Int32) :
    (gl_w F lay M).set j (gl_r F j, .inr (ci, (fs.map (gl_v F M)).set k (.int x))) = gl_w F lay (upd M i x) := by
  obtain ⟨⟨ow, how⟩, -⟩ := hok
  have h0 : ow i = (j, k) := how j _ k i hj (by simp only [gl_at]; rw [hk])
  apply List.ext_getElem?
  intro j'
  by_cases hjj : j' = j
  · subst hjj
    rw [List.getElem?_set_self (by rw [gl_w_len]; exact (List.getElem?_eq_some_iff.mp hj).1), gl_w_at hj]
    have e : (fs.map (gl_v F M)).set k (.int x) = fs.map (gl_v F (upd M i x)) := by
      apply List.ext_getElem?
      intro k'
      by_cases hkk : k' = k
      · subst hkk
        rw [List.getElem?_set_self (by rw [List.length_map]; exact (List.getElem?_eq_some_iff.mp hk).1), List.getElem?_map, hk]
        simp only [Option.map_some, gl_v, gl_upd_eq]
      · rw [List.getElem?_set_ne (Ne.symm hkk), List.getElem?_map, List.getElem?_map]
        cases hf : fs[k']? with
        | none => rfl
        | some y =>
          cases y with
          | inr c => rfl
          | inl i' =>
            have h1 : ow i' = (j', k') := how j' _ k' i' hj (by simp only [gl_at]; rw [hf])
            have hne : i' ≠ i := by
              intro e
              rw [e, h0] at h1
              exact hkk (Prod.mk.inj h1).2.symm
            simp only [Option.map_some, gl_v, gl_upd_ne hne]
    simp only [gl_e, e]
  · rw [List.getElem?_set_ne (Ne.symm hjj)]
    cases hc : lay[j']? with
    | none =>
      rw [List.getElem?_eq_none (by rw [gl_w_len]; exact List.getElem?_eq_none_iff.mp hc), List.getElem?_eq_none (by rw [gl_w_len]; exact List.getElem?_eq_none_iff.mp hc)]
    | some c =>
      rw [gl_w_at hc, gl_w_at hc]
      rw [gl_e_upd (c := c) (M := M) (M' := upd M i x)]
      intro k' i' hi
      apply gl_upd_ne
      intro e
      have h1 := how j' c k' i' hc hi
      rw [e, h0] at h1
      exact hjj (Prod.mk.inj h1).1.symm
theorem gl_w_D {F : gl_F} {lay : List gl_Ce} {M : Nat → Int32} (h : gl_inj F lay) : va_D (gl_A F lay) (gl_w F lay M) := by
  refine ⟨fun i j p q hi hj hpq => ?_, fun k q hk => ?_⟩
  · obtain ⟨c, h1, rfl⟩ := gl_w_inv hi
    obtain ⟨c', h2, rfl⟩ := gl_w_inv hj
    exact h i j (List.getElem?_eq_some_iff.mp h1).1 (List.getElem?_eq_some_iff.mp h2).1 hpq
  · obtain ⟨c, h1, rfl⟩ := gl_w_inv hk
    exact ⟨k, (List.getElem?_eq_some_iff.mp h1).1, rfl⟩
/-! ===== locals as a list by places ===== -/
def gl_L (nL : Nat) (ls : Array Slot) (L : List (Option Value)) : Prop := ls.size = nL ∧ lv_wf ls ∧ L.length = nL ∧ ∀ (i : Nat) (v : Value), L[i]? = some (some v) → ls[i]? = some (.val v) ∧ v.category = 1
def gl_al (L : List (Option Value)) : List (Nat × Value) := L.zipIdx.filterMap (fun q => q.1.map (fun v => (q.2, v)))
theorem gl_al_mem {L : List (Option Value)} {i : Nat} {v : Value} : (i, v) ∈ gl_al L ↔ L[i]? = some (some v) := by
  unfold gl_al
  rw [List.mem_filterMap]
  constructor
  · rintro ⟨⟨o, j⟩, h1, h2⟩
    have h3 := List.mk_mem_zipIdx_iff_getElem?.mp h1
    cases o with
    | none => cases h2
    | some w =>
      simp only [Option.map_some, Option.some.injEq, Prod.mk.injEq] at h2
      obtain ⟨rfl, rfl⟩ := h2
      exact h3
  · intro h
    exact ⟨(some v, i), List.mk_mem_zipIdx_iff_getElem?.mpr h, rfl⟩
theorem gl_L_has {nL : Nat} {ls : Array Slot} {L : List (Option Value)} (h : gl_L nL ls L) : lv_has ls nL (gl_al L) :=
  ⟨h.1, h.2.1, fun q hq => (h.2.2.2 q.1 q.2 (gl_al_mem.mp hq)).1⟩
theorem gl_L_at {nL : Nat} {ls : Array Slot} {L : List (Option Value)} (h : gl_L nL ls L) {i : Nat} {v : Value} (hi : L[i]? = some (some v)) : ls[i]? = some (.val v) := (h.2.2.2 i v hi).1
theorem gl_L_set {nL : Nat} {ls ls' : Array Slot} {L : List (Option Value)} {i : Nat} {v : Value} (h : gl_L nL ls L) (hc : v.category = 1)
    (h' : lv_has ls' nL ((i, v) :: (gl_al L).filter (fun q => !(q.1 == i) && !(q.1 + 1 == i && q.2.category == 2)))) : gl_L nL ls' (L.set i (some v)) := by
  refine ⟨h'.1, h'.2.1, by rw [List.length_set]; exact h.2.2.1, fun j w hj => ?_⟩
  by_cases hij : j = i
  · subst hij
    have hlt : j < L.length := by
      have := (List.getElem?_eq_some_iff.mp hj).1
      rwa [List.length_set] at this
    rw [List.getElem?_set_self hlt] at hj
    cases hj
    exact ⟨h'.2.2 _ List.mem_cons_self, hc⟩
  · rw [List.getElem?_set_ne (Ne.symm hij)] at hj
    have hw := (h.2.2.2 j w hj).2
    refine ⟨h'.2.2 (j, w) (List.mem_cons_of_mem _ (List.mem_filter.mpr ⟨gl_al_mem.mpr hj, ?_⟩)), hw⟩
    simp [hij, hw]
theorem gl_args_at (av : List Value) (h : ∀ v ∈ av, v.category = 1) : ∀ (b i : Nat) (v : Value), av[i]? = some v → (b + i, v) ∈ lv_args b av := by
  induction av with
  | nil => intro b i v hv; simp at hv
  | cons a as ih =>
    intro b i v hv
    have ha : ¬ a.category = 2 := by rw [h a List.mem_cons_self]; decide
    simp only [lv_args, ha, if_false]
    cases i with
    | zero =>
      simp only [List.getElem?_cons_zero, Option.some.injEq] at hv
      subst hv
      exact List.mem_cons_self
    | succ i =>
      rw [List.getElem?_cons_succ] at hv
      have := ih (fun v hv => h v (List.mem_cons_of_mem _ hv)) (b + 1) i v hv
      rw [show b + 1 + i = b + (i + 1) by omega] at this
      exact List.mem_cons_of_mem _ this
theorem gl_sl_len (av : List Value) (h : ∀ v ∈ av, v.category = 1) : (lg_sl av).length = av.length := by
  induction av with
  | nil => rfl
  | cons a as ih =>
    have ha : ¬ a.category = 2 := by rw [h a List.mem_cons_self]; decide
    have hi := ih (fun v hv => h v (List.mem_cons_of_mem _ hv))
    unfold lg_sl at hi ⊢
    simp [ha, hi]
/-! ===== the judgement: the machine at pc, locals L, stack st, memory M, comes to the method's end with answer ov and memory M' ===== -/
abbrev gl_V : Type := gl_F × Program × Env × Room × State × MethodId × Array Value × List Frame × Method × Code × Nat
def gl_Q (F : gl_F) (lay : List gl_Ce) (ov : Option Value) (M' : Nat → Int32) : Array Value → State → Outcome → State → Prop := fun _ st o t => o = .returned ov ∧ va_P F.2.1 vwCl (gl_w F lay M') t.heap ∧ va_F (gl_A F lay) st t
def gl_Pc (F : gl_F) (lay : List gl_Ce) (av : List Value) (M : Nat → Int32) : Array Value → State → Prop := va_Pc av (fun U => va_P F.2.1 vwCl (gl_w F lay M) U.heap ∧ va_K F.2.1 vwCl (gl_tys F) U ∧ gl_inj F lay)
/-- A CONTRACT: method y, called with av over memory M, answers ov and leaves M' -/
def gl_Ct (F : gl_F) (lay : List gl_Ce) (y : MethodName) (ws : List Cond) (rm : Room) (av : List Value) (M : Nat → Int32) (ov : Option Value) (M' : Nat → Int32) : Prop := Met F.1 y ws rm (gl_Pc F lay av M) (gl_Q F lay ov M') 0 0 (gl_A F lay)
def gl_C (cc : ByteArray) (ws : List Cond) (own : String) (rm : Room) (ret : Option FieldType) (lay : List gl_Ce) : gl_V → Prop
  | (F, p, e, R, s, m, args, below, meth, c, nL) => p.tables.exec = Jvm.exec ∧ c.code = cc ∧ c.maxLocals = nL ∧ s.vm.findClass own = some m.cls ∧ (∀ w ∈ ws, w.before args s = true) ∧ va_K F.2.1 vwCl (gl_tys F) s ∧ gl_inj F lay ∧ gl_ok lay ∧ meth.locks = false ∧ meth.sig.returnType = ret ∧ R = rm
def gl_G (lay : List gl_Ce) (ov : Option Value) (M' : Nat → Int32) : gl_V → Nat → List (Option Value) → List Value → (Nat → Int32) → Prop
  | (F, p, e, R, s, m, args, below, meth, c, nL), pc, L, st, M => ∀ (H : Heap) (locs : List Loc) (ls : Array Slot), va_P F.2.1 vwCl (gl_w F lay M) H → va_S (gl_A F lay) s.heap H locs → gl_L nL ls L → W p F.1 e R s m args below meth c H locs 0 0 (MQ below (gl_Q F lay ov M') args s 0 0 (gl_A F lay)) (F0 m pc ls st)
set_option maxHeartbeats 1000000 in
theorem gl_met {F : gl_F} {lay : List gl_Ce} {y : MethodName} {ws ws' : List Cond} {cc : ByteArray} {maxL : Nat} {ret : Option FieldType} {rm : Room} {av : List Value} {M M' : Nat → Int32} {ov : Option Value} (L0 : List (Option Value))
    (hy : plainName y.cls = true) (hw : ws = Cond.code y cc maxL ret :: ws') (hok : gl_ok lay) (hav : ∀ v ∈ av, v.category = 1) (hlen : av.length ≤ maxL) (hL0 : av.map some ++ List.replicate (maxL - av.length) none = L0)
    (body : ∀ V : gl_V, V.1 = F → gl_C cc ws y.cls rm ret lay V → gl_G lay ov M' V 0 L0 [] M) : gl_Ct F lay y ws rm av M ov M' := by
  refine Met.ofW (cc := cc) (maxL := maxL) (ret := ret) hy hw ?_
  intro p e s m args below meth c s₁ B hml hv
  obtain ⟨rfl, hP, hK, hI⟩ := hv
  have hts := atoms_spec (ws := ws) B.pre
  have hown : s.vm.findClass y.cls = some m.cls := findClass_of_methodNamed B.named
  have hl := lv_entry av (n := maxL) (by rw [gl_sl_len av hav]; exact hlen)
  rw [lg_entry_eq]
  generalize (lg_sl av ++ List.replicate (maxL - (lg_sl av).length) Slot.unset).toArray = ls at hl ⊢
  have hL : gl_L maxL ls L0 := by
    refine ⟨hl.1, hl.2.1, ?_, fun i v hi => ?_⟩
    · rw [← hL0]; simp; omega
    · rw [← hL0] at hi
      by_cases h : i < av.length
      · rw [List.getElem?_append_left (by simpa using h), List.getElem?_map] at hi
        cases hx : av[i]? with
        | none => rw [hx] at hi; cases hi
        | some w =>
          rw [hx] at hi
          simp only [Option.map_some, Option.some.injEq] at hi
          subst hi
          have := gl_args_at av hav 0 i w hx
          rw [Nat.zero_add] at this
          exact ⟨hl.2.2 _ this, hav _ (List.mem_of_getElem? hx)⟩
      · rw [List.getElem?_append_right (by simpa using h)] at hi
        have := List.eq_of_mem_replicate (List.mem_of_getElem? hi)
        cases this
  exact body (F, p, e, rm, s, m, av.toArray, below, meth, c, maxL) rfl ⟨B.exec, B.bytes, hml, hown, hts, hK, hI, hok, B.notSynchronized, B.returns, rfl⟩ s.heap [] ls hP va_S.rf hL
def gl_le : List (Option Value) → List (Option Value) → Prop
  | [], [] => True
  | none :: a, _ :: b => gl_le a b
  | some v :: a, some w :: b => w = v ∧ gl_le a b
  | _, _ => False
theorem gl_le_len : ∀ {a b : List (Option Value)}, gl_le a b → a.length = b.length
  | [], [], _ => rfl
  | none :: a, _ :: b, h => by
    simp only [gl_le] at h
    simp [gl_le_len h]
  | some v :: a, some w :: b, h => by
    simp only [gl_le] at h
    simp [gl_le_len h.2]
  | [], _ :: _, h => by simp [gl_le] at h
  | none :: _, [], h => by simp [gl_le] at h
  | some _ :: _, [], h => by simp [gl_le] at h
  | some _ :: _, none :: _, h => by simp [gl_le] at h
theorem gl_le_at : ∀ {a b : List (Option Value)}, gl_le a b → ∀ (i : Nat) (v : Value), a[i]? = some (some v) → b[i]? = some (some v)
  | [], [], _, i, v, hi => by simp at hi
  | none :: a, x :: b, h, i, v, hi => by
    simp only [gl_le] at h
    cases i with
    | zero => simp at hi
    | succ i =>
      rw [List.getElem?_cons_succ] at hi ⊢
      exact gl_le_at h i v hi
  | some u :: a, some w :: b, h, i, v, hi => by
    simp only [gl_le] at h
    cases i with
    | zero =>
      rw [List.getElem?_cons_zero] at hi ⊢
      rw [h.1]
      exact hi
    | succ i =>
      rw [List.getElem?_cons_succ] at hi ⊢
      exact gl_le_at h.2 i v hi
  | [], _ :: _, h, _, _, _ => by simp [gl_le] at h
  | none :: _, [], h, _, _, _ => by simp [gl_le] at h
  | some _ :: _, [], h, _, _, _ => by simp [gl_le] at h
  | some _ :: _, none :: _, h, _, _, _ => by simp [gl_le] at h
theorem gl_le_n : gl_le [] [] := trivial
theorem gl_le_c {v w : Value} {a b : List (Option Value)} (h : w = v) (t : gl_le a b) : gl_le (some v :: a) (some w :: b) := ⟨h, t⟩
theorem gl_le_o {x : Option Value} {a b : List (Option Value)} (t : gl_le a b) : gl_le (none :: a) (x :: b) := t
theorem gl_inc1 (x : Int32) : x + Int32.ofInt 1 = x + nI 1 := by rw [show Int32.ofInt 1 = nI 1 by decide]
theorem gl_inc4 (x : Int32) : x + Int32.ofInt 4 = x + nI 4 := by rw [show Int32.ofInt 4 = nI 4 by decide]
theorem gl_xge {x : Int32} : ¬ ¬ x ≤ x := fun h => h (Int32.le_refl _)
section GLR
variable {cc : ByteArray} {ws : List Cond} {own : String} {rm : Room} {ret : Option FieldType} {lay : List gl_Ce} {ov : Option Value} {M M' M1 : Nat → Int32} {V : gl_V} {pc : Nat} {L L1 : List (Option Value)} {st rest : List Value}
/-- on at a place whose state is known to go on: what is asked there must be what stands -/
theorem gl_on (h : gl_G lay ov M' V pc L1 st M1) (hL : gl_le L1 L) (hM : M = M1) : gl_G lay ov M' V pc L st M := by
  obtain ⟨F, p, e, R, s, m, args, below, meth, c, nL⟩ := V
  subst hM
  intro H locs ls hP hS hl
  exact h H locs ls hP hS ⟨hl.1, hl.2.1, (gl_le_len hL).trans hl.2.2.1, fun i v hi => hl.2.2.2 i v (gl_le_at hL i v hi)⟩
theorem gl_mem (hM : M = M1) (h : gl_G lay ov M' V pc L st M1) : gl_G lay ov M' V pc L st M := by rw [hM]; exact h
theorem gl_top {x y : Int32} (hx : x = y) (h : gl_G lay ov M' V pc L (.int y :: st) M) : gl_G lay ov M' V pc L (.int x :: st) M := by rw [hx]; exact h
theorem gl_loop {n : Nat} (Lk : Nat → List (Option Value)) (Mk : Nat → Nat → Int32) (I : Nat → Prop) (k0 : Nat) (h0 : k0 ≤ n) (hI : I k0) (hL : gl_le (Lk k0) L) (hM : M = Mk k0) (exit : I n → gl_G lay ov M' V pc (Lk n) st (Mk n))
    (step : ∀ k, k < n → I k → (I (k + 1) → gl_G lay ov M' V pc (Lk (k + 1)) st (Mk (k + 1))) → gl_G lay ov M' V pc (Lk k) st (Mk k)) : gl_G lay ov M' V pc L st M := by
  have h : ∀ j k, k + j = n → I k → gl_G lay ov M' V pc (Lk k) st (Mk k) := by
    intro j
    induction j with
    | zero =>
      intro k hk hI
      rw [Nat.add_zero] at hk
      subst hk
      exact exit hI
    | succ j ih =>
      intro k hk hI
      exact step k (by omega) hI (fun h => ih (k + 1) (by omega) h)
  exact gl_on (h (n - k0) k0 (by omega) hI) hL hM
theorem gl_iconst {n : Int} (v : Int32) (C : gl_C cc ws own rm ret lay V) (d : decode cc pc = .ok (.iconst n, 1)) (hv : Int32.ofInt n = v) (k : gl_G lay ov M' V (pc + 1) L (.int v :: st) M) : gl_G lay ov M' V pc L st M := by
  obtain ⟨F, p, e, R, s, m, args, below, meth, c, nL⟩ := V
  obtain ⟨hx, hb, hml, hown, hts, hK, hI, hok, hlk, hr, rfl⟩ := C
  intro H locs ls hP hS hl
  exact lv_iconst hx hb d hv (k H locs ls hP hS hl)
theorem gl_bipush {n : Int} (v : Int32) (C : gl_C cc ws own rm ret lay V) (d : decode cc pc = .ok (.bipush n, 2)) (hv : (Int8.ofInt n).toInt32 = v) (k : gl_G lay ov M' V (pc + 2) L (.int v :: st) M) : gl_G lay ov M' V pc L st M := by
  obtain ⟨F, p, e, R, s, m, args, below, meth, c, nL⟩ := V
  obtain ⟨hx, hb, hml, hown, hts, hK, hI, hok, hlk, hr, rfl⟩ := C
  intro H locs ls hP hS hl
  exact lv_bipush hx hb d hv (k H locs ls hP hS hl)
theorem gl_sipush {n : Int} (v : Int32) (C : gl_C cc ws own rm ret lay V) (d : decode cc pc = .ok (.sipush n, 3)) (hv : (Int16.ofInt n).toInt32 = v) (k : gl_G lay ov M' V (pc + 3) L (.int v :: st) M) : gl_G lay ov M' V pc L st M := by
  obtain ⟨F, p, e, R, s, m, args, below, meth, c, nL⟩ := V
  obtain ⟨hx, hb, hml, hown, hts, hK, hI, hok, hlk, hr, rfl⟩ := C
  intro H locs ls hP hS hl
  exact lv_sipush hx hb d hv (k H locs ls hP hS hl)
theorem gl_ldc {index : Nat} (v : Int32) (C : gl_C cc ws own rm ret lay V) (d : decode cc pc = .ok (.ldc index, 2)) (hv : Cond.constant own index v ∈ ws) (k : gl_G lay ov M' V (pc + 2) L (.int v :: st) M) : gl_G lay ov M' V pc L st M := by
  obtain ⟨F, p, e, R, s, m, args, below, meth, c, nL⟩ := V
  obtain ⟨hx, hb, hml, hown, hts, hK, hI, hok, hlk, hr, rfl⟩ := C
  intro H locs ls hP hS hl
  exact lv_ldc hx hb hown (hts _ hv) d (k H locs ls hP hS hl)
theorem gl_ldcw {index : Nat} (v : Int32) (C : gl_C cc ws own rm ret lay V) (d : decode cc pc = .ok (.ldc_w index, 3)) (hv : Cond.constant own index v ∈ ws) (k : gl_G lay ov M' V (pc + 3) L (.int v :: st) M) : gl_G lay ov M' V pc L st M := by
  obtain ⟨F, p, e, R, s, m, args, below, meth, c, nL⟩ := V
  obtain ⟨hx, hb, hml, hown, hts, hK, hI, hok, hlk, hr, rfl⟩ := C
  intro H locs ls hP hS hl
  exact lv_ldcw hx hb hown (hts _ hv) d (k H locs ls hP hS hl)
theorem gl_iadd {x y : Int32} (C : gl_C cc ws own rm ret lay V) (d : decode cc pc = .ok (.iadd, 1)) (k : gl_G lay ov M' V (pc + 1) L (.int (x + y) :: st) M) : gl_G lay ov M' V pc L (.int y :: .int x :: st) M := by
  obtain ⟨F, p, e, R, s, m, args, below, meth, c, nL⟩ := V
  obtain ⟨hx, hb, hml, hown, hts, hK, hI, hok, hlk, hr, rfl⟩ := C
  intro H locs ls hP hS hl
  exact lv_iadd hx hb d (k H locs ls hP hS hl)
theorem gl_isub {x y : Int32} (C : gl_C cc ws own rm ret lay V) (d : decode cc pc = .ok (.isub, 1)) (k : gl_G lay ov M' V (pc + 1) L (.int (x - y) :: st) M) : gl_G lay ov M' V pc L (.int y :: .int x :: st) M := by
  obtain ⟨F, p, e, R, s, m, args, below, meth, c, nL⟩ := V
  obtain ⟨hx, hb, hml, hown, hts, hK, hI, hok, hlk, hr, rfl⟩ := C
  intro H locs ls hP hS hl
  exact lv_isub hx hb d (k H locs ls hP hS hl)
theorem gl_imul {x y : Int32} (C : gl_C cc ws own rm ret lay V) (d : decode cc pc = .ok (.imul, 1)) (k : gl_G lay ov M' V (pc + 1) L (.int (x * y) :: st) M) : gl_G lay ov M' V pc L (.int y :: .int x :: st) M := by
  obtain ⟨F, p, e, R, s, m, args, below, meth, c, nL⟩ := V
  obtain ⟨hx, hb, hml, hown, hts, hK, hI, hok, hlk, hr, rfl⟩ := C
  intro H locs ls hP hS hl
  exact lv_imul hx hb d (k H locs ls hP hS hl)
theorem gl_iand {x y : Int32} (C : gl_C cc ws own rm ret lay V) (d : decode cc pc = .ok (.iand, 1)) (k : gl_G lay ov M' V (pc + 1) L (.int (x &&& y) :: st) M) : gl_G lay ov M' V pc L (.int y :: .int x :: st) M := by
  obtain ⟨F, p, e, R, s, m, args, below, meth, c, nL⟩ := V
  obtain ⟨hx, hb, hml, hown, hts, hK, hI, hok, hlk, hr, rfl⟩ := C
  intro H locs ls hP hS hl
  exact lv_iand hx hb d (k H locs ls hP hS hl)
theorem gl_ior {x y : Int32} (C : gl_C cc ws own rm ret lay V) (d : decode cc pc = .ok (.ior, 1)) (k : gl_G lay ov M' V (pc + 1) L (.int (x ||| y) :: st) M) : gl_G lay ov M' V pc L (.int y :: .int x :: st) M := by
  obtain ⟨F, p, e, R, s, m, args, below, meth, c, nL⟩ := V
  obtain ⟨hx, hb, hml, hown, hts, hK, hI, hok, hlk, hr, rfl⟩ := C
  intro H locs ls hP hS hl
  exact lv_ior hx hb d (k H locs ls hP hS hl)
theorem gl_ixor {x y : Int32} (C : gl_C cc ws own rm ret lay V) (d : decode cc pc = .ok (.ixor, 1)) (k : gl_G lay ov M' V (pc + 1) L (.int (x ^^^ y) :: st) M) : gl_G lay ov M' V pc L (.int y :: .int x :: st) M := by
  obtain ⟨F, p, e, R, s, m, args, below, meth, c, nL⟩ := V
  obtain ⟨hx, hb, hml, hown, hts, hK, hI, hok, hlk, hr, rfl⟩ := C
  intro H locs ls hP hS hl
  exact lv_ixor hx hb d (k H locs ls hP hS hl)
theorem gl_ishl {x y : Int32} (C : gl_C cc ws own rm ret lay V) (d : decode cc pc = .ok (.ishl, 1)) (k : gl_G lay ov M' V (pc + 1) L (.int (x <<< (y &&& 31)) :: st) M) : gl_G lay ov M' V pc L (.int y :: .int x :: st) M := by
  obtain ⟨F, p, e, R, s, m, args, below, meth, c, nL⟩ := V
  obtain ⟨hx, hb, hml, hown, hts, hK, hI, hok, hlk, hr, rfl⟩ := C
  intro H locs ls hP hS hl
  exact lv_ishl hx hb d (k H locs ls hP hS hl)
theorem gl_ishr {x y : Int32} (C : gl_C cc ws own rm ret lay V) (d : decode cc pc = .ok (.ishr, 1)) (k : gl_G lay ov M' V (pc + 1) L (.int (x >>> (y &&& 31)) :: st) M) : gl_G lay ov M' V pc L (.int y :: .int x :: st) M := by
  obtain ⟨F, p, e, R, s, m, args, below, meth, c, nL⟩ := V
  obtain ⟨hx, hb, hml, hown, hts, hK, hI, hok, hlk, hr, rfl⟩ := C
  intro H locs ls hP hS hl
  exact lv_ishr hx hb d (k H locs ls hP hS hl)
theorem gl_idiv {x y : Int32} (C : gl_C cc ws own rm ret lay V) (d : decode cc pc = .ok (.idiv, 1)) (hne : ¬ y = 0) (k : gl_G lay ov M' V (pc + 1) L (.int (x / y) :: st) M) : gl_G lay ov M' V pc L (.int y :: .int x :: st) M := by
  obtain ⟨F, p, e, R, s, m, args, below, meth, c, nL⟩ := V
  obtain ⟨hx, hb, hml, hown, hts, hK, hI, hok, hlk, hr, rfl⟩ := C
  intro H locs ls hP hS hl
  exact lv_idiv hx hb d hne (k H locs ls hP hS hl)
theorem gl_irem {x y : Int32} (C : gl_C cc ws own rm ret lay V) (d : decode cc pc = .ok (.irem, 1)) (hne : ¬ y = 0) (k : gl_G lay ov M' V (pc + 1) L (.int (x - x / y * y) :: st) M) : gl_G lay ov M' V pc L (.int y :: .int x :: st) M := by
  obtain ⟨F, p, e, R, s, m, args, below, meth, c, nL⟩ := V
  obtain ⟨hx, hb, hml, hown, hts, hK, hI, hok, hlk, hr, rfl⟩ := C
  intro H locs ls hP hS hl
  exact lv_irem hx hb d hne (k H locs ls hP hS hl)
theorem gl_iushr {x y : Int32} (C : gl_C cc ws own rm ret lay V) (d : decode cc pc = .ok (.iushr, 1)) (k : gl_G lay ov M' V (pc + 1) L (.int (x.toUInt32 >>> (y.toUInt32 &&& Int32.toUInt32 31)).toInt32 :: st) M) : gl_G lay ov M' V pc L (.int y :: .int x :: st) M := by
  obtain ⟨F, p, e, R, s, m, args, below, meth, c, nL⟩ := V
  obtain ⟨hx, hb, hml, hown, hts, hK, hI, hok, hlk, hr, rfl⟩ := C
  intro H locs ls hP hS hl
  exact lv_iushr hx hb d rfl (k H locs ls hP hS hl)
theorem gl_iaddN {a b : Nat} (C : gl_C cc ws own rm ret lay V) (d : decode cc pc = .ok (.iadd, 1)) (k : gl_G lay ov M' V (pc + 1) L (.int (nI (a + b)) :: st) M) : gl_G lay ov M' V pc L (.int (nI b) :: .int (nI a) :: st) M := gl_iadd C d (by rw [nI_add]; exact k)
theorem gl_imulN {a b : Nat} (C : gl_C cc ws own rm ret lay V) (d : decode cc pc = .ok (.imul, 1)) (k : gl_G lay ov M' V (pc + 1) L (.int (nI (a * b)) :: st) M) : gl_G lay ov M' V pc L (.int (nI b) :: .int (nI a) :: st) M := gl_imul C d (by rw [pk_mul]; exact k)
theorem gl_ifnull {q : Nat} {off : Int} (C : gl_C cc ws own rm ret lay V) (d : decode cc pc = .ok (.ifnull off, 3)) (k : gl_G lay ov M' V (pc + 3) L st M) : gl_G lay ov M' V pc L (.ref q :: st) M := by
  obtain ⟨F, p, e, R, s, m, args, below, meth, c, nL⟩ := V
  obtain ⟨hx, hb, hml, hown, hts, hK, hI, hok, hlk, hr, rfl⟩ := C
  intro H locs ls hP hS hl
  exact lv_ifnull hx hb d (k H locs ls hP hS hl)
theorem gl_ifnonnull {q : Nat} {off : Int} (tgt : Nat) (C : gl_C cc ws own rm ret lay V) (d : decode cc pc = .ok (.ifnonnull off, 3)) (ht : (pc : Int) + off = (tgt : Int)) (k : gl_G lay ov M' V tgt L st M) : gl_G lay ov M' V pc L (.ref q :: st) M := by
  obtain ⟨F, p, e, R, s, m, args, below, meth, c, nL⟩ := V
  obtain ⟨hx, hb, hml, hown, hts, hK, hI, hok, hlk, hr, rfl⟩ := C
  intro H locs ls hP hS hl
  exact lv_ifnonnull hx hb d ht (k H locs ls hP hS hl)
theorem gl_ineg {x : Int32} (C : gl_C cc ws own rm ret lay V) (d : decode cc pc = .ok (.ineg, 1)) (k : gl_G lay ov M' V (pc + 1) L (.int (-x) :: st) M) : gl_G lay ov M' V pc L (.int x :: st) M := by
  obtain ⟨F, p, e, R, s, m, args, below, meth, c, nL⟩ := V
  obtain ⟨hx, hb, hml, hown, hts, hK, hI, hok, hlk, hr, rfl⟩ := C
  intro H locs ls hP hS hl
  exact lv_ineg hx hb d (k H locs ls hP hS hl)
theorem gl_dupI {x : Int32} (C : gl_C cc ws own rm ret lay V) (d : decode cc pc = .ok (.dup, 1)) (k : gl_G lay ov M' V (pc + 1) L (.int x :: .int x :: st) M) : gl_G lay ov M' V pc L (.int x :: st) M := by
  obtain ⟨F, p, e, R, s, m, args, below, meth, c, nL⟩ := V
  obtain ⟨hx, hb, hml, hown, hts, hK, hI, hok, hlk, hr, rfl⟩ := C
  intro H locs ls hP hS hl
  exact lv_dup hx hb d rfl (k H locs ls hP hS hl)
theorem gl_dupR {q : Nat} (C : gl_C cc ws own rm ret lay V) (d : decode cc pc = .ok (.dup, 1)) (k : gl_G lay ov M' V (pc + 1) L (.ref q :: .ref q :: st) M) : gl_G lay ov M' V pc L (.ref q :: st) M := by
  obtain ⟨F, p, e, R, s, m, args, below, meth, c, nL⟩ := V
  obtain ⟨hx, hb, hml, hown, hts, hK, hI, hok, hlk, hr, rfl⟩ := C
  intro H locs ls hP hS hl
  exact lv_dup hx hb d rfl (k H locs ls hP hS hl)
theorem gl_dup2 {x : Int32} {q : Nat} (C : gl_C cc ws own rm ret lay V) (d : decode cc pc = .ok (.dup2, 1)) (k : gl_G lay ov M' V (pc + 1) L (.int x :: .ref q :: .int x :: .ref q :: st) M) : gl_G lay ov M' V pc L (.int x :: .ref q :: st) M := by
  obtain ⟨F, p, e, R, s, m, args, below, meth, c, nL⟩ := V
  obtain ⟨hx, hb, hml, hown, hts, hK, hI, hok, hlk, hr, rfl⟩ := C
  intro H locs ls hP hS hl
  exact lv_dup2_11 hx hb d rfl rfl (k H locs ls hP hS hl)
theorem gl_goto {off : Int} (tgt : Nat) (C : gl_C cc ws own rm ret lay V) (d : decode cc pc = .ok (.goto off, 3)) (ht : (pc : Int) + off = (tgt : Int)) (k : gl_G lay ov M' V tgt L st M) : gl_G lay ov M' V pc L st M := by
  obtain ⟨F, p, e, R, s, m, args, below, meth, c, nL⟩ := V
  obtain ⟨hx, hb, hml, hown, hts, hK, hI, hok, hlk, hr, rfl⟩ := C
  intro H locs ls hP hS hl
  exact lv_goto hx hb d ht (k H locs ls hP hS hl)
theorem gl_icmp_eq {x y : Int32} {off : Int} (tgt : Nat) (C : gl_C cc ws own rm ret lay V) (d : decode cc pc = .ok (.if_icmp .eq off, 3)) (ht : (pc : Int) + off = (tgt : Int)) (kt : x = y → gl_G lay ov M' V tgt L st M) (kf : ¬ x = y → gl_G lay ov M' V (pc + 3) L st M) : gl_G lay ov M' V pc L (.int y :: .int x :: st) M := by
  obtain ⟨F, p, e, R, s, m, args, below, meth, c, nL⟩ := V
  obtain ⟨hx, hb, hml, hown, hts, hK, hI, hok, hlk, hr, rfl⟩ := C
  intro H locs ls hP hS hl
  exact lv_icmp_eq hx hb d ht (fun q => kt q H locs ls hP hS hl) (fun q => kf q H locs ls hP hS hl)
theorem gl_icmp_ne {x y : Int32} {off : Int} (tgt : Nat) (C : gl_C cc ws own rm ret lay V) (d : decode cc pc = .ok (.if_icmp .ne off, 3)) (ht : (pc : Int) + off = (tgt : Int)) (kt : ¬ x = y → gl_G lay ov M' V tgt L st M) (kf : x = y → gl_G lay ov M' V (pc + 3) L st M) : gl_G lay ov M' V pc L (.int y :: .int x :: st) M := by
  obtain ⟨F, p, e, R, s, m, args, below, meth, c, nL⟩ := V
  obtain ⟨hx, hb, hml, hown, hts, hK, hI, hok, hlk, hr, rfl⟩ := C
  intro H locs ls hP hS hl
  exact lv_icmp_ne hx hb d ht (fun q => kt q H locs ls hP hS hl) (fun q => kf q H locs ls hP hS hl)
theorem gl_icmp_lt {x y : Int32} {off : Int} (tgt : Nat) (C : gl_C cc ws own rm ret lay V) (d : decode cc pc = .ok (.if_icmp .lt off, 3)) (ht : (pc : Int) + off = (tgt : Int)) (kt : x < y → gl_G lay ov M' V tgt L st M) (kf : ¬ x < y → gl_G lay ov M' V (pc + 3) L st M) : gl_G lay ov M' V pc L (.int y :: .int x :: st) M := by
  obtain ⟨F, p, e, R, s, m, args, below, meth, c, nL⟩ := V
  obtain ⟨hx, hb, hml, hown, hts, hK, hI, hok, hlk, hr, rfl⟩ := C
  intro H locs ls hP hS hl
  exact lv_icmp_lt hx hb d ht (fun q => kt q H locs ls hP hS hl) (fun q => kf q H locs ls hP hS hl)
theorem gl_icmp_ge {x y : Int32} {off : Int} (tgt : Nat) (C : gl_C cc ws own rm ret lay V) (d : decode cc pc = .ok (.if_icmp .ge off, 3)) (ht : (pc : Int) + off = (tgt : Int)) (kt : y ≤ x → gl_G lay ov M' V tgt L st M) (kf : ¬ y ≤ x → gl_G lay ov M' V (pc + 3) L st M) : gl_G lay ov M' V pc L (.int y :: .int x :: st) M := by
  obtain ⟨F, p, e, R, s, m, args, below, meth, c, nL⟩ := V
  obtain ⟨hx, hb, hml, hown, hts, hK, hI, hok, hlk, hr, rfl⟩ := C
  intro H locs ls hP hS hl
  exact lv_icmp_ge hx hb d ht (fun q => kt q H locs ls hP hS hl) (fun q => kf q H locs ls hP hS hl)
theorem gl_icmp_gt {x y : Int32} {off : Int} (tgt : Nat) (C : gl_C cc ws own rm ret lay V) (d : decode cc pc = .ok (.if_icmp .gt off, 3)) (ht : (pc : Int) + off = (tgt : Int)) (kt : y < x → gl_G lay ov M' V tgt L st M) (kf : ¬ y < x → gl_G lay ov M' V (pc + 3) L st M) : gl_G lay ov M' V pc L (.int y :: .int x :: st) M := by
  obtain ⟨F, p, e, R, s, m, args, below, meth, c, nL⟩ := V
  obtain ⟨hx, hb, hml, hown, hts, hK, hI, hok, hlk, hr, rfl⟩ := C
  intro H locs ls hP hS hl
  exact lv_icmp_gt hx hb d ht (fun q => kt q H locs ls hP hS hl) (fun q => kf q H locs ls hP hS hl)
theorem gl_icmp_le {x y : Int32} {off : Int} (tgt : Nat) (C : gl_C cc ws own rm ret lay V) (d : decode cc pc = .ok (.if_icmp .le off, 3)) (ht : (pc : Int) + off = (tgt : Int)) (kt : x ≤ y → gl_G lay ov M' V tgt L st M) (kf : ¬ x ≤ y → gl_G lay ov M' V (pc + 3) L st M) : gl_G lay ov M' V pc L (.int y :: .int x :: st) M := by
  obtain ⟨F, p, e, R, s, m, args, below, meth, c, nL⟩ := V
  obtain ⟨hx, hb, hml, hown, hts, hK, hI, hok, hlk, hr, rfl⟩ := C
  intro H locs ls hP hS hl
  exact lv_icmp_le hx hb d ht (fun q => kt q H locs ls hP hS hl) (fun q => kf q H locs ls hP hS hl)
theorem gl_ifeq {x : Int32} {off : Int} (tgt : Nat) (C : gl_C cc ws own rm ret lay V) (d : decode cc pc = .ok (.ifCond .eq off, 3)) (ht : (pc : Int) + off = (tgt : Int)) (kt : x = 0 → gl_G lay ov M' V tgt L st M) (kf : ¬ x = 0 → gl_G lay ov M' V (pc + 3) L st M) : gl_G lay ov M' V pc L (.int x :: st) M := by
  obtain ⟨F, p, e, R, s, m, args, below, meth, c, nL⟩ := V
  obtain ⟨hx, hb, hml, hown, hts, hK, hI, hok, hlk, hr, rfl⟩ := C
  intro H locs ls hP hS hl
  exact lv_if_eq hx hb d ht (fun q => kt q H locs ls hP hS hl) (fun q => kf q H locs ls hP hS hl)
theorem gl_ifne {x : Int32} {off : Int} (tgt : Nat) (C : gl_C cc ws own rm ret lay V) (d : decode cc pc = .ok (.ifCond .ne off, 3)) (ht : (pc : Int) + off = (tgt : Int)) (kt : ¬ x = 0 → gl_G lay ov M' V tgt L st M) (kf : x = 0 → gl_G lay ov M' V (pc + 3) L st M) : gl_G lay ov M' V pc L (.int x :: st) M := by
  obtain ⟨F, p, e, R, s, m, args, below, meth, c, nL⟩ := V
  obtain ⟨hx, hb, hml, hown, hts, hK, hI, hok, hlk, hr, rfl⟩ := C
  intro H locs ls hP hS hl
  exact lv_if_ne hx hb d ht (fun q => kt q H locs ls hP hS hl) (fun q => kf q H locs ls hP hS hl)
theorem gl_iflt {x : Int32} {off : Int} (tgt : Nat) (C : gl_C cc ws own rm ret lay V) (d : decode cc pc = .ok (.ifCond .lt off, 3)) (ht : (pc : Int) + off = (tgt : Int)) (kt : x < 0 → gl_G lay ov M' V tgt L st M) (kf : ¬ x < 0 → gl_G lay ov M' V (pc + 3) L st M) : gl_G lay ov M' V pc L (.int x :: st) M := by
  obtain ⟨F, p, e, R, s, m, args, below, meth, c, nL⟩ := V
  obtain ⟨hx, hb, hml, hown, hts, hK, hI, hok, hlk, hr, rfl⟩ := C
  intro H locs ls hP hS hl
  exact lv_if_lt hx hb d ht (fun q => kt q H locs ls hP hS hl) (fun q => kf q H locs ls hP hS hl)
theorem gl_ifge {x : Int32} {off : Int} (tgt : Nat) (C : gl_C cc ws own rm ret lay V) (d : decode cc pc = .ok (.ifCond .ge off, 3)) (ht : (pc : Int) + off = (tgt : Int)) (kt : 0 ≤ x → gl_G lay ov M' V tgt L st M) (kf : ¬ 0 ≤ x → gl_G lay ov M' V (pc + 3) L st M) : gl_G lay ov M' V pc L (.int x :: st) M := by
  obtain ⟨F, p, e, R, s, m, args, below, meth, c, nL⟩ := V
  obtain ⟨hx, hb, hml, hown, hts, hK, hI, hok, hlk, hr, rfl⟩ := C
  intro H locs ls hP hS hl
  exact lv_if_ge hx hb d ht (fun q => kt q H locs ls hP hS hl) (fun q => kf q H locs ls hP hS hl)
theorem gl_ifgt {x : Int32} {off : Int} (tgt : Nat) (C : gl_C cc ws own rm ret lay V) (d : decode cc pc = .ok (.ifCond .gt off, 3)) (ht : (pc : Int) + off = (tgt : Int)) (kt : 0 < x → gl_G lay ov M' V tgt L st M) (kf : ¬ 0 < x → gl_G lay ov M' V (pc + 3) L st M) : gl_G lay ov M' V pc L (.int x :: st) M := by
  obtain ⟨F, p, e, R, s, m, args, below, meth, c, nL⟩ := V
  obtain ⟨hx, hb, hml, hown, hts, hK, hI, hok, hlk, hr, rfl⟩ := C
  intro H locs ls hP hS hl
  exact lv_if_gt hx hb d ht (fun q => kt q H locs ls hP hS hl) (fun q => kf q H locs ls hP hS hl)
theorem gl_ifle {x : Int32} {off : Int} (tgt : Nat) (C : gl_C cc ws own rm ret lay V) (d : decode cc pc = .ok (.ifCond .le off, 3)) (ht : (pc : Int) + off = (tgt : Int)) (kt : x ≤ 0 → gl_G lay ov M' V tgt L st M) (kf : ¬ x ≤ 0 → gl_G lay ov M' V (pc + 3) L st M) : gl_G lay ov M' V pc L (.int x :: st) M := by
  obtain ⟨F, p, e, R, s, m, args, below, meth, c, nL⟩ := V
  obtain ⟨hx, hb, hml, hown, hts, hK, hI, hok, hlk, hr, rfl⟩ := C
  intro H locs ls hP hS hl
  exact lv_if_le hx hb d ht (fun q => kt q H locs ls hP hS hl) (fun q => kf q H locs ls hP hS hl)
theorem gl_iload_0 {T : List (Option Value)} {x : Int32} (C : gl_C cc ws own rm ret lay V) (d : decode cc pc = .ok (.iload_n 0, 1)) (k : gl_G lay ov M' V (pc + 1) (some (.int x) :: T) (.int x :: st) M) : gl_G lay ov M' V pc (some (.int x) :: T) st M := by
  obtain ⟨F, p, e, R, s, m, args, below, meth, c, nL⟩ := V
  obtain ⟨hx, hb, hml, hown, hts, hK, hI, hok, hlk, hr, rfl⟩ := C
  intro H locs ls hP hS hl
  exact lv_iload_n hx hb d rfl (gl_L_at hl (i := 0) rfl) (k H locs ls hP hS hl)
theorem gl_istore_0 {o : Option Value} {T : List (Option Value)} {x : Int32} (C : gl_C cc ws own rm ret lay V) (d : decode cc pc = .ok (.istore_n 0, 1)) (k : gl_G lay ov M' V (pc + 1) (some (.int x) :: T) st M) : gl_G lay ov M' V pc (o :: T) (.int x :: st) M := by
  obtain ⟨F, p, e, R, s, m, args, below, meth, c, nL⟩ := V
  obtain ⟨hx, hb, hml, hown, hts, hK, hI, hok, hlk, hr, rfl⟩ := C
  intro H locs ls hP hS hl
  exact lv_istore_n hx hb d rfl (gl_L_has hl) (show 0 < nL by have := hl.2.2.1; simp at this; omega) rfl (fun ls' h' => k H locs ls' hP hS (gl_L_set (i := 0) hl rfl h'))
theorem gl_aload_0 {T : List (Option Value)} {q : Nat} (C : gl_C cc ws own rm ret lay V) (d : decode cc pc = .ok (.aload_n 0, 1)) (k : gl_G lay ov M' V (pc + 1) (some (.ref q) :: T) (.ref q :: st) M) : gl_G lay ov M' V pc (some (.ref q) :: T) st M := by
  obtain ⟨F, p, e, R, s, m, args, below, meth, c, nL⟩ := V
  obtain ⟨hx, hb, hml, hown, hts, hK, hI, hok, hlk, hr, rfl⟩ := C
  intro H locs ls hP hS hl
  exact lv_aload_n hx hb d rfl (gl_L_at hl (i := 0) rfl) (k H locs ls hP hS hl)
theorem gl_astore_0 {o : Option Value} {T : List (Option Value)} {q : Nat} (C : gl_C cc ws own rm ret lay V) (d : decode cc pc = .ok (.astore_n 0, 1)) (k : gl_G lay ov M' V (pc + 1) (some (.ref q) :: T) st M) : gl_G lay ov M' V pc (o :: T) (.ref q :: st) M := by
  obtain ⟨F, p, e, R, s, m, args, below, meth, c, nL⟩ := V
  obtain ⟨hx, hb, hml, hown, hts, hK, hI, hok, hlk, hr, rfl⟩ := C
  intro H locs ls hP hS hl
  exact lv_astore_n hx hb d rfl (gl_L_has hl) (show 0 < nL by have := hl.2.2.1; simp at this; omega) rfl (fun ls' h' => k H locs ls' hP hS (gl_L_set (i := 0) hl rfl h'))
theorem gl_iinc_0 {T : List (Option Value)} {x v : Int32} {n : Int} (C : gl_C cc ws own rm ret lay V) (d : decode cc pc = .ok (.iinc 0 n, 3)) (hn : x + Int32.ofInt n = v) (k : gl_G lay ov M' V (pc + 3) (some (.int (v)) :: T) st M) : gl_G lay ov M' V pc (some (.int (x)) :: T) st M := by
  obtain ⟨F, p, e, R, s, m, args, below, meth, c, nL⟩ := V
  obtain ⟨hx, hb, hml, hown, hts, hK, hI, hok, hlk, hr, rfl⟩ := C
  intro H locs ls hP hS hl
  obtain ⟨kk, hkk⟩ := List.mem_iff_getElem?.mp (gl_al_mem (i := 0).mpr (show (some (Value.int (x)) :: T)[0]? = some (some (.int (x))) from rfl))
  exact lv_iinc hx hb d (gl_L_has hl) hkk hn (show 0 < nL by have := hl.2.2.1; simp at this; omega) rfl (fun ls' h' => k H locs ls' hP hS (gl_L_set (i := 0) hl rfl h'))
theorem gl_iincN_0 {T : List (Option Value)} {a : Nat} (v : Nat) (C : gl_C cc ws own rm ret lay V) (d : decode cc pc = .ok (.iinc 0 (v : Int), 3)) (k : gl_G lay ov M' V (pc + 3) (some (.int (nI (a + v))) :: T) st M) : gl_G lay ov M' V pc (some (.int (nI a)) :: T) st M := gl_iinc_0 C d (by rw [show Int32.ofInt (v : Int) = nI v from rfl]; exact nI_add a v) k
theorem gl_iload_1 {o0 : Option Value} {T : List (Option Value)} {x : Int32} (C : gl_C cc ws own rm ret lay V) (d : decode cc pc = .ok (.iload_n 1, 1)) (k : gl_G lay ov M' V (pc + 1) (o0 :: some (.int x) :: T) (.int x :: st) M) : gl_G lay ov M' V pc (o0 :: some (.int x) :: T) st M := by
  obtain ⟨F, p, e, R, s, m, args, below, meth, c, nL⟩ := V
  obtain ⟨hx, hb, hml, hown, hts, hK, hI, hok, hlk, hr, rfl⟩ := C
  intro H locs ls hP hS hl
  exact lv_iload_n hx hb d rfl (gl_L_at hl (i := 1) rfl) (k H locs ls hP hS hl)
theorem gl_istore_1 {o0 : Option Value} {o : Option Value} {T : List (Option Value)} {x : Int32} (C : gl_C cc ws own rm ret lay V) (d : decode cc pc = .ok (.istore_n 1, 1)) (k : gl_G lay ov M' V (pc + 1) (o0 :: some (.int x) :: T) st M) : gl_G lay ov M' V pc (o0 :: o :: T) (.int x :: st) M := by
  obtain ⟨F, p, e, R, s, m, args, below, meth, c, nL⟩ := V
  obtain ⟨hx, hb, hml, hown, hts, hK, hI, hok, hlk, hr, rfl⟩ := C
  intro H locs ls hP hS hl
  exact lv_istore_n hx hb d rfl (gl_L_has hl) (show 1 < nL by have := hl.2.2.1; simp at this; omega) rfl (fun ls' h' => k H locs ls' hP hS (gl_L_set (i := 1) hl rfl h'))
theorem gl_aload_1 {o0 : Option Value} {T : List (Option Value)} {q : Nat} (C : gl_C cc ws own rm ret lay V) (d : decode cc pc = .ok (.aload_n 1, 1)) (k : gl_G lay ov M' V (pc + 1) (o0 :: some (.ref q) :: T) (.ref q :: st) M) : gl_G lay ov M' V pc (o0 :: some (.ref q) :: T) st M := by
  obtain ⟨F, p, e, R, s, m, args, below, meth, c, nL⟩ := V
  obtain ⟨hx, hb, hml, hown, hts, hK, hI, hok, hlk, hr, rfl⟩ := C
  intro H locs ls hP hS hl
  exact lv_aload_n hx hb d rfl (gl_L_at hl (i := 1) rfl) (k H locs ls hP hS hl)
theorem gl_astore_1 {o0 : Option Value} {o : Option Value} {T : List (Option Value)} {q : Nat} (C : gl_C cc ws own rm ret lay V) (d : decode cc pc = .ok (.astore_n 1, 1)) (k : gl_G lay ov M' V (pc + 1) (o0 :: some (.ref q) :: T) st M) : gl_G lay ov M' V pc (o0 :: o :: T) (.ref q :: st) M := by
  obtain ⟨F, p, e, R, s, m, args, below, meth, c, nL⟩ := V
  obtain ⟨hx, hb, hml, hown, hts, hK, hI, hok, hlk, hr, rfl⟩ := C
  intro H locs ls hP hS hl
  exact lv_astore_n hx hb d rfl (gl_L_has hl) (show 1 < nL by have := hl.2.2.1; simp at this; omega) rfl (fun ls' h' => k H locs ls' hP hS (gl_L_set (i := 1) hl rfl h'))
theorem gl_iinc_1 {o0 : Option Value} {T : List (Option Value)} {x v : Int32} {n : Int} (C : gl_C cc ws own rm ret lay V) (d : decode cc pc = .ok (.iinc 1 n, 3)) (hn : x + Int32.ofInt n = v) (k : gl_G lay ov M' V (pc + 3) (o0 :: some (.int (v)) :: T) st M) : gl_G lay ov M' V pc (o0 :: some (.int (x)) :: T) st M := by
  obtain ⟨F, p, e, R, s, m, args, below, meth, c, nL⟩ := V
  obtain ⟨hx, hb, hml, hown, hts, hK, hI, hok, hlk, hr, rfl⟩ := C
  intro H locs ls hP hS hl
  obtain ⟨kk, hkk⟩ := List.mem_iff_getElem?.mp (gl_al_mem (i := 1).mpr (show (o0 :: some (Value.int (x)) :: T)[1]? = some (some (.int (x))) from rfl))
  exact lv_iinc hx hb d (gl_L_has hl) hkk hn (show 1 < nL by have := hl.2.2.1; simp at this; omega) rfl (fun ls' h' => k H locs ls' hP hS (gl_L_set (i := 1) hl rfl h'))
theorem gl_iincN_1 {o0 : Option Value} {T : List (Option Value)} {a : Nat} (v : Nat) (C : gl_C cc ws own rm ret lay V) (d : decode cc pc = .ok (.iinc 1 (v : Int), 3)) (k : gl_G lay ov M' V (pc + 3) (o0 :: some (.int (nI (a + v))) :: T) st M) : gl_G lay ov M' V pc (o0 :: some (.int (nI a)) :: T) st M := gl_iinc_1 C d (by rw [show Int32.ofInt (v : Int) = nI v from rfl]; exact nI_add a v) k
theorem gl_iload_2 {o0 o1 : Option Value} {T : List (Option Value)} {x : Int32} (C : gl_C cc ws own rm ret lay V) (d : decode cc pc = .ok (.iload_n 2, 1)) (k : gl_G lay ov M' V (pc + 1) (o0 :: o1 :: some (.int x) :: T) (.int x :: st) M) : gl_G lay ov M' V pc (o0 :: o1 :: some (.int x) :: T) st M := by
  obtain ⟨F, p, e, R, s, m, args, below, meth, c, nL⟩ := V
  obtain ⟨hx, hb, hml, hown, hts, hK, hI, hok, hlk, hr, rfl⟩ := C
  intro H locs ls hP hS hl
  exact lv_iload_n hx hb d rfl (gl_L_at hl (i := 2) rfl) (k H locs ls hP hS hl)
theorem gl_istore_2 {o0 o1 : Option Value} {o : Option Value} {T : List (Option Value)} {x : Int32} (C : gl_C cc ws own rm ret lay V) (d : decode cc pc = .ok (.istore_n 2, 1)) (k : gl_G lay ov M' V (pc + 1) (o0 :: o1 :: some (.int x) :: T) st M) : gl_G lay ov M' V pc (o0 :: o1 :: o :: T) (.int x :: st) M := by
  obtain ⟨F, p, e, R, s, m, args, below, meth, c, nL⟩ := V
  obtain ⟨hx, hb, hml, hown, hts, hK, hI, hok, hlk, hr, rfl⟩ := C
  intro H locs ls hP hS hl
  exact lv_istore_n hx hb d rfl (gl_L_has hl) (show 2 < nL by have := hl.2.2.1; simp at this; omega) rfl (fun ls' h' => k H locs ls' hP hS (gl_L_set (i := 2) hl rfl h'))
theorem gl_aload_2 {o0 o1 : Option Value} {T : List (Option Value)} {q : Nat} (C : gl_C cc ws own rm ret lay V) (d : decode cc pc = .ok (.aload_n 2, 1)) (k : gl_G lay ov M' V (pc + 1) (o0 :: o1 :: some (.ref q) :: T) (.ref q :: st) M) : gl_G lay ov M' V pc (o0 :: o1 :: some (.ref q) :: T) st M := by
  obtain ⟨F, p, e, R, s, m, args, below, meth, c, nL⟩ := V
  obtain ⟨hx, hb, hml, hown, hts, hK, hI, hok, hlk, hr, rfl⟩ := C
  intro H locs ls hP hS hl
  exact lv_aload_n hx hb d rfl (gl_L_at hl (i := 2) rfl) (k H locs ls hP hS hl)
theorem gl_astore_2 {o0 o1 : Option Value} {o : Option Value} {T : List (Option Value)} {q : Nat} (C : gl_C cc ws own rm ret lay V) (d : decode cc pc = .ok (.astore_n 2, 1)) (k : gl_G lay ov M' V (pc + 1) (o0 :: o1 :: some (.ref q) :: T) st M) : gl_G lay ov M' V pc (o0 :: o1 :: o :: T) (.ref q :: st) M := by
  obtain ⟨F, p, e, R, s, m, args, below, meth, c, nL⟩ := V
  obtain ⟨hx, hb, hml, hown, hts, hK, hI, hok, hlk, hr, rfl⟩ := C
  intro H locs ls hP hS hl
  exact lv_astore_n hx hb d rfl (gl_L_has hl) (show 2 < nL by have := hl.2.2.1; simp at this; omega) rfl (fun ls' h' => k H locs ls' hP hS (gl_L_set (i := 2) hl rfl h'))
theorem gl_iinc_2 {o0 o1 : Option Value} {T : List (Option Value)} {x v : Int32} {n : Int} (C : gl_C cc ws own rm ret lay V) (d : decode cc pc = .ok (.iinc 2 n, 3)) (hn : x + Int32.ofInt n = v) (k : gl_G lay ov M' V (pc + 3) (o0 :: o1 :: some (.int (v)) :: T) st M) : gl_G lay ov M' V pc (o0 :: o1 :: some (.int (x)) :: T) st M := by
  obtain ⟨F, p, e, R, s, m, args, below, meth, c, nL⟩ := V
  obtain ⟨hx, hb, hml, hown, hts, hK, hI, hok, hlk, hr, rfl⟩ := C
  intro H locs ls hP hS hl
  obtain ⟨kk, hkk⟩ := List.mem_iff_getElem?.mp (gl_al_mem (i := 2).mpr (show (o0 :: o1 :: some (Value.int (x)) :: T)[2]? = some (some (.int (x))) from rfl))
  exact lv_iinc hx hb d (gl_L_has hl) hkk hn (show 2 < nL by have := hl.2.2.1; simp at this; omega) rfl (fun ls' h' => k H locs ls' hP hS (gl_L_set (i := 2) hl rfl h'))
theorem gl_iincN_2 {o0 o1 : Option Value} {T : List (Option Value)} {a : Nat} (v : Nat) (C : gl_C cc ws own rm ret lay V) (d : decode cc pc = .ok (.iinc 2 (v : Int), 3)) (k : gl_G lay ov M' V (pc + 3) (o0 :: o1 :: some (.int (nI (a + v))) :: T) st M) : gl_G lay ov M' V pc (o0 :: o1 :: some (.int (nI a)) :: T) st M := gl_iinc_2 C d (by rw [show Int32.ofInt (v : Int) = nI v from rfl]; exact nI_add a v) k
theorem gl_iload_3 {o0 o1 o2 : Option Value} {T : List (Option Value)} {x : Int32} (C : gl_C cc ws own rm ret lay V) (d : decode cc pc = .ok (.iload_n 3, 1)) (k : gl_G lay ov M' V (pc + 1) (o0 :: o1 :: o2 :: some (.int x) :: T) (.int x :: st) M) : gl_G lay ov M' V pc (o0 :: o1 :: o2 :: some (.int x) :: T) st M := by
  obtain ⟨F, p, e, R, s, m, args, below, meth, c, nL⟩ := V
  obtain ⟨hx, hb, hml, hown, hts, hK, hI, hok, hlk, hr, rfl⟩ := C
  intro H locs ls hP hS hl
  exact lv_iload_n hx hb d rfl (gl_L_at hl (i := 3) rfl) (k H locs ls hP hS hl)
theorem gl_istore_3 {o0 o1 o2 : Option Value} {o : Option Value} {T : List (Option Value)} {x : Int32} (C : gl_C cc ws own rm ret lay V) (d : decode cc pc = .ok (.istore_n 3, 1)) (k : gl_G lay ov M' V (pc + 1) (o0 :: o1 :: o2 :: some (.int x) :: T) st M) : gl_G lay ov M' V pc (o0 :: o1 :: o2 :: o :: T) (.int x :: st) M := by
  obtain ⟨F, p, e, R, s, m, args, below, meth, c, nL⟩ := V
  obtain ⟨hx, hb, hml, hown, hts, hK, hI, hok, hlk, hr, rfl⟩ := C
  intro H locs ls hP hS hl
  exact lv_istore_n hx hb d rfl (gl_L_has hl) (show 3 < nL by have := hl.2.2.1; simp at this; omega) rfl (fun ls' h' => k H locs ls' hP hS (gl_L_set (i := 3) hl rfl h'))
theorem gl_aload_3 {o0 o1 o2 : Option Value} {T : List (Option Value)} {q : Nat} (C : gl_C cc ws own rm ret lay V) (d : decode cc pc = .ok (.aload_n 3, 1)) (k : gl_G lay ov M' V (pc + 1) (o0 :: o1 :: o2 :: some (.ref q) :: T) (.ref q :: st) M) : gl_G lay ov M' V pc (o0 :: o1 :: o2 :: some (.ref q) :: T) st M := by
  obtain ⟨F, p, e, R, s, m, args, below, meth, c, nL⟩ := V
  obtain ⟨hx, hb, hml, hown, hts, hK, hI, hok, hlk, hr, rfl⟩ := C
  intro H locs ls hP hS hl
  exact lv_aload_n hx hb d rfl (gl_L_at hl (i := 3) rfl) (k H locs ls hP hS hl)
theorem gl_astore_3 {o0 o1 o2 : Option Value} {o : Option Value} {T : List (Option Value)} {q : Nat} (C : gl_C cc ws own rm ret lay V) (d : decode cc pc = .ok (.astore_n 3, 1)) (k : gl_G lay ov M' V (pc + 1) (o0 :: o1 :: o2 :: some (.ref q) :: T) st M) : gl_G lay ov M' V pc (o0 :: o1 :: o2 :: o :: T) (.ref q :: st) M := by
  obtain ⟨F, p, e, R, s, m, args, below, meth, c, nL⟩ := V
  obtain ⟨hx, hb, hml, hown, hts, hK, hI, hok, hlk, hr, rfl⟩ := C
  intro H locs ls hP hS hl
  exact lv_astore_n hx hb d rfl (gl_L_has hl) (show 3 < nL by have := hl.2.2.1; simp at this; omega) rfl (fun ls' h' => k H locs ls' hP hS (gl_L_set (i := 3) hl rfl h'))
theorem gl_iinc_3 {o0 o1 o2 : Option Value} {T : List (Option Value)} {x v : Int32} {n : Int} (C : gl_C cc ws own rm ret lay V) (d : decode cc pc = .ok (.iinc 3 n, 3)) (hn : x + Int32.ofInt n = v) (k : gl_G lay ov M' V (pc + 3) (o0 :: o1 :: o2 :: some (.int (v)) :: T) st M) : gl_G lay ov M' V pc (o0 :: o1 :: o2 :: some (.int (x)) :: T) st M := by
  obtain ⟨F, p, e, R, s, m, args, below, meth, c, nL⟩ := V
  obtain ⟨hx, hb, hml, hown, hts, hK, hI, hok, hlk, hr, rfl⟩ := C
  intro H locs ls hP hS hl
  obtain ⟨kk, hkk⟩ := List.mem_iff_getElem?.mp (gl_al_mem (i := 3).mpr (show (o0 :: o1 :: o2 :: some (Value.int (x)) :: T)[3]? = some (some (.int (x))) from rfl))
  exact lv_iinc hx hb d (gl_L_has hl) hkk hn (show 3 < nL by have := hl.2.2.1; simp at this; omega) rfl (fun ls' h' => k H locs ls' hP hS (gl_L_set (i := 3) hl rfl h'))
theorem gl_iincN_3 {o0 o1 o2 : Option Value} {T : List (Option Value)} {a : Nat} (v : Nat) (C : gl_C cc ws own rm ret lay V) (d : decode cc pc = .ok (.iinc 3 (v : Int), 3)) (k : gl_G lay ov M' V (pc + 3) (o0 :: o1 :: o2 :: some (.int (nI (a + v))) :: T) st M) : gl_G lay ov M' V pc (o0 :: o1 :: o2 :: some (.int (nI a)) :: T) st M := gl_iinc_3 C d (by rw [show Int32.ofInt (v : Int) = nI v from rfl]; exact nI_add a v) k
theorem gl_iload_4 {o0 o1 o2 o3 : Option Value} {T : List (Option Value)} {x : Int32} (C : gl_C cc ws own rm ret lay V) (d : decode cc pc = .ok (.iload 4, 2)) (k : gl_G lay ov M' V (pc + 2) (o0 :: o1 :: o2 :: o3 :: some (.int x) :: T) (.int x :: st) M) : gl_G lay ov M' V pc (o0 :: o1 :: o2 :: o3 :: some (.int x) :: T) st M := by
  obtain ⟨F, p, e, R, s, m, args, below, meth, c, nL⟩ := V
  obtain ⟨hx, hb, hml, hown, hts, hK, hI, hok, hlk, hr, rfl⟩ := C
  intro H locs ls hP hS hl
  exact lv_iload hx hb d (gl_L_at hl (i := 4) rfl) (k H locs ls hP hS hl)
theorem gl_istore_4 {o0 o1 o2 o3 : Option Value} {o : Option Value} {T : List (Option Value)} {x : Int32} (C : gl_C cc ws own rm ret lay V) (d : decode cc pc = .ok (.istore 4, 2)) (k : gl_G lay ov M' V (pc + 2) (o0 :: o1 :: o2 :: o3 :: some (.int x) :: T) st M) : gl_G lay ov M' V pc (o0 :: o1 :: o2 :: o3 :: o :: T) (.int x :: st) M := by
  obtain ⟨F, p, e, R, s, m, args, below, meth, c, nL⟩ := V
  obtain ⟨hx, hb, hml, hown, hts, hK, hI, hok, hlk, hr, rfl⟩ := C
  intro H locs ls hP hS hl
  exact lv_istore hx hb d (gl_L_has hl) (show 4 < nL by have := hl.2.2.1; simp at this; omega) rfl (fun ls' h' => k H locs ls' hP hS (gl_L_set (i := 4) hl rfl h'))
theorem gl_aload_4 {o0 o1 o2 o3 : Option Value} {T : List (Option Value)} {q : Nat} (C : gl_C cc ws own rm ret lay V) (d : decode cc pc = .ok (.aload 4, 2)) (k : gl_G lay ov M' V (pc + 2) (o0 :: o1 :: o2 :: o3 :: some (.ref q) :: T) (.ref q :: st) M) : gl_G lay ov M' V pc (o0 :: o1 :: o2 :: o3 :: some (.ref q) :: T) st M := by
  obtain ⟨F, p, e, R, s, m, args, below, meth, c, nL⟩ := V
  obtain ⟨hx, hb, hml, hown, hts, hK, hI, hok, hlk, hr, rfl⟩ := C
  intro H locs ls hP hS hl
  exact lv_aload hx hb d (gl_L_at hl (i := 4) rfl) (k H locs ls hP hS hl)
theorem gl_astore_4 {o0 o1 o2 o3 : Option Value} {o : Option Value} {T : List (Option Value)} {q : Nat} (C : gl_C cc ws own rm ret lay V) (d : decode cc pc = .ok (.astore 4, 2)) (k : gl_G lay ov M' V (pc + 2) (o0 :: o1 :: o2 :: o3 :: some (.ref q) :: T) st M) : gl_G lay ov M' V pc (o0 :: o1 :: o2 :: o3 :: o :: T) (.ref q :: st) M := by
  obtain ⟨F, p, e, R, s, m, args, below, meth, c, nL⟩ := V
  obtain ⟨hx, hb, hml, hown, hts, hK, hI, hok, hlk, hr, rfl⟩ := C
  intro H locs ls hP hS hl
  exact lv_astore hx hb d (gl_L_has hl) (show 4 < nL by have := hl.2.2.1; simp at this; omega) rfl (fun ls' h' => k H locs ls' hP hS (gl_L_set (i := 4) hl rfl h'))
theorem gl_iinc_4 {o0 o1 o2 o3 : Option Value} {T : List (Option Value)} {x v : Int32} {n : Int} (C : gl_C cc ws own rm ret lay V) (d : decode cc pc = .ok (.iinc 4 n, 3)) (hn : x + Int32.ofInt n = v) (k : gl_G lay ov M' V (pc + 3) (o0 :: o1 :: o2 :: o3 :: some (.int (v)) :: T) st M) : gl_G lay ov M' V pc (o0 :: o1 :: o2 :: o3 :: some (.int (x)) :: T) st M := by
  obtain ⟨F, p, e, R, s, m, args, below, meth, c, nL⟩ := V
  obtain ⟨hx, hb, hml, hown, hts, hK, hI, hok, hlk, hr, rfl⟩ := C
  intro H locs ls hP hS hl
  obtain ⟨kk, hkk⟩ := List.mem_iff_getElem?.mp (gl_al_mem (i := 4).mpr (show (o0 :: o1 :: o2 :: o3 :: some (Value.int (x)) :: T)[4]? = some (some (.int (x))) from rfl))
  exact lv_iinc hx hb d (gl_L_has hl) hkk hn (show 4 < nL by have := hl.2.2.1; simp at this; omega) rfl (fun ls' h' => k H locs ls' hP hS (gl_L_set (i := 4) hl rfl h'))
theorem gl_iincN_4 {o0 o1 o2 o3 : Option Value} {T : List (Option Value)} {a : Nat} (v : Nat) (C : gl_C cc ws own rm ret lay V) (d : decode cc pc = .ok (.iinc 4 (v : Int), 3)) (k : gl_G lay ov M' V (pc + 3) (o0 :: o1 :: o2 :: o3 :: some (.int (nI (a + v))) :: T) st M) : gl_G lay ov M' V pc (o0 :: o1 :: o2 :: o3 :: some (.int (nI a)) :: T) st M := gl_iinc_4 C d (by rw [show Int32.ofInt (v : Int) = nI v from rfl]; exact nI_add a v) k
theorem gl_iload_5 {o0 o1 o2 o3 o4 : Option Value} {T : List (Option Value)} {x : Int32} (C : gl_C cc ws own rm ret lay V) (d : decode cc pc = .ok (.iload 5, 2)) (k : gl_G lay ov M' V (pc + 2) (o0 :: o1 :: o2 :: o3 :: o4 :: some (.int x) :: T) (.int x :: st) M) : gl_G lay ov M' V pc (o0 :: o1 :: o2 :: o3 :: o4 :: some (.int x) :: T) st M := by
  obtain ⟨F, p, e, R, s, m, args, below, meth, c, nL⟩ := V
  obtain ⟨hx, hb, hml, hown, hts, hK, hI, hok, hlk, hr, rfl⟩ := C
  intro H locs ls hP hS hl
  exact lv_iload hx hb d (gl_L_at hl (i := 5) rfl) (k H locs ls hP hS hl)
theorem gl_istore_5 {o0 o1 o2 o3 o4 : Option Value} {o : Option Value} {T : List (Option Value)} {x : Int32} (C : gl_C cc ws own rm ret lay V) (d : decode cc pc = .ok (.istore 5, 2)) (k : gl_G lay ov M' V (pc + 2) (o0 :: o1 :: o2 :: o3 :: o4 :: some (.int x) :: T) st M) : gl_G lay ov M' V pc (o0 :: o1 :: o2 :: o3 :: o4 :: o :: T) (.int x :: st) M := by
  obtain ⟨F, p, e, R, s, m, args, below, meth, c, nL⟩ := V
  obtain ⟨hx, hb, hml, hown, hts, hK, hI, hok, hlk, hr, rfl⟩ := C
  intro H locs ls hP hS hl
  exact lv_istore hx hb d (gl_L_has hl) (show 5 < nL by have := hl.2.2.1; simp at this; omega) rfl (fun ls' h' => k H locs ls' hP hS (gl_L_set (i := 5) hl rfl h'))
theorem gl_iinc_5 {o0 o1 o2 o3 o4 : Option Value} {T : List (Option Value)} {x v : Int32} {n : Int} (C : gl_C cc ws own rm ret lay V) (d : decode cc pc = .ok (.iinc 5 n, 3)) (hn : x + Int32.ofInt n = v) (k : gl_G lay ov M' V (pc + 3) (o0 :: o1 :: o2 :: o3 :: o4 :: some (.int (v)) :: T) st M) : gl_G lay ov M' V pc (o0 :: o1 :: o2 :: o3 :: o4 :: some (.int (x)) :: T) st M := by
  obtain ⟨F, p, e, R, s, m, args, below, meth, c, nL⟩ := V
  obtain ⟨hx, hb, hml, hown, hts, hK, hI, hok, hlk, hr, rfl⟩ := C
  intro H locs ls hP hS hl
  obtain ⟨kk, hkk⟩ := List.mem_iff_getElem?.mp (gl_al_mem (i := 5).mpr (show (o0 :: o1 :: o2 :: o3 :: o4 :: some (Value.int (x)) :: T)[5]? = some (some (.int (x))) from rfl))
  exact lv_iinc hx hb d (gl_L_has hl) hkk hn (show 5 < nL by have := hl.2.2.1; simp at this; omega) rfl (fun ls' h' => k H locs ls' hP hS (gl_L_set (i := 5) hl rfl h'))
theorem gl_iincN_5 {o0 o1 o2 o3 o4 : Option Value} {T : List (Option Value)} {a : Nat} (v : Nat) (C : gl_C cc ws own rm ret lay V) (d : decode cc pc = .ok (.iinc 5 (v : Int), 3)) (k : gl_G lay ov M' V (pc + 3) (o0 :: o1 :: o2 :: o3 :: o4 :: some (.int (nI (a + v))) :: T) st M) : gl_G lay ov M' V pc (o0 :: o1 :: o2 :: o3 :: o4 :: some (.int (nI a)) :: T) st M := gl_iinc_5 C d (by rw [show Int32.ofInt (v : Int) = nI v from rfl]; exact nI_add a v) k
theorem gl_iload_6 {o0 o1 o2 o3 o4 o5 : Option Value} {T : List (Option Value)} {x : Int32} (C : gl_C cc ws own rm ret lay V) (d : decode cc pc = .ok (.iload 6, 2)) (k : gl_G lay ov M' V (pc + 2) (o0 :: o1 :: o2 :: o3 :: o4 :: o5 :: some (.int x) :: T) (.int x :: st) M) : gl_G lay ov M' V pc (o0 :: o1 :: o2 :: o3 :: o4 :: o5 :: some (.int x) :: T) st M := by
  obtain ⟨F, p, e, R, s, m, args, below, meth, c, nL⟩ := V
  obtain ⟨hx, hb, hml, hown, hts, hK, hI, hok, hlk, hr, rfl⟩ := C
  intro H locs ls hP hS hl
  exact lv_iload hx hb d (gl_L_at hl (i := 6) rfl) (k H locs ls hP hS hl)
theorem gl_istore_6 {o0 o1 o2 o3 o4 o5 : Option Value} {o : Option Value} {T : List (Option Value)} {x : Int32} (C : gl_C cc ws own rm ret lay V) (d : decode cc pc = .ok (.istore 6, 2)) (k : gl_G lay ov M' V (pc + 2) (o0 :: o1 :: o2 :: o3 :: o4 :: o5 :: some (.int x) :: T) st M) : gl_G lay ov M' V pc (o0 :: o1 :: o2 :: o3 :: o4 :: o5 :: o :: T) (.int x :: st) M := by
  obtain ⟨F, p, e, R, s, m, args, below, meth, c, nL⟩ := V
  obtain ⟨hx, hb, hml, hown, hts, hK, hI, hok, hlk, hr, rfl⟩ := C
  intro H locs ls hP hS hl
  exact lv_istore hx hb d (gl_L_has hl) (show 6 < nL by have := hl.2.2.1; simp at this; omega) rfl (fun ls' h' => k H locs ls' hP hS (gl_L_set (i := 6) hl rfl h'))
theorem gl_iinc_6 {o0 o1 o2 o3 o4 o5 : Option Value} {T : List (Option Value)} {x v : Int32} {n : Int} (C : gl_C cc ws own rm ret lay V) (d : decode cc pc = .ok (.iinc 6 n, 3)) (hn : x + Int32.ofInt n = v) (k : gl_G lay ov M' V (pc + 3) (o0 :: o1 :: o2 :: o3 :: o4 :: o5 :: some (.int (v)) :: T) st M) : gl_G lay ov M' V pc (o0 :: o1 :: o2 :: o3 :: o4 :: o5 :: some (.int (x)) :: T) st M := by
  obtain ⟨F, p, e, R, s, m, args, below, meth, c, nL⟩ := V
  obtain ⟨hx, hb, hml, hown, hts, hK, hI, hok, hlk, hr, rfl⟩ := C
  intro H locs ls hP hS hl
  obtain ⟨kk, hkk⟩ := List.mem_iff_getElem?.mp (gl_al_mem (i := 6).mpr (show (o0 :: o1 :: o2 :: o3 :: o4 :: o5 :: some (Value.int (x)) :: T)[6]? = some (some (.int (x))) from rfl))
  exact lv_iinc hx hb d (gl_L_has hl) hkk hn (show 6 < nL by have := hl.2.2.1; simp at this; omega) rfl (fun ls' h' => k H locs ls' hP hS (gl_L_set (i := 6) hl rfl h'))
theorem gl_iincN_6 {o0 o1 o2 o3 o4 o5 : Option Value} {T : List (Option Value)} {a : Nat} (v : Nat) (C : gl_C cc ws own rm ret lay V) (d : decode cc pc = .ok (.iinc 6 (v : Int), 3)) (k : gl_G lay ov M' V (pc + 3) (o0 :: o1 :: o2 :: o3 :: o4 :: o5 :: some (.int (nI (a + v))) :: T) st M) : gl_G lay ov M' V pc (o0 :: o1 :: o2 :: o3 :: o4 :: o5 :: some (.int (nI a)) :: T) st M := gl_iinc_6 C d (by rw [show Int32.ofInt (v : Int) = nI v from rfl]; exact nI_add a v) k
theorem gl_iload_7 {o0 o1 o2 o3 o4 o5 o6 : Option Value} {T : List (Option Value)} {x : Int32} (C : gl_C cc ws own rm ret lay V) (d : decode cc pc = .ok (.iload 7, 2)) (k : gl_G lay ov M' V (pc + 2) (o0 :: o1 :: o2 :: o3 :: o4 :: o5 :: o6 :: some (.int x) :: T) (.int x :: st) M) : gl_G lay ov M' V pc (o0 :: o1 :: o2 :: o3 :: o4 :: o5 :: o6 :: some (.int x) :: T) st M := by
  obtain ⟨F, p, e, R, s, m, args, below, meth, c, nL⟩ := V
  obtain ⟨hx, hb, hml, hown, hts, hK, hI, hok, hlk, hr, rfl⟩ := C
  intro H locs ls hP hS hl
  exact lv_iload hx hb d (gl_L_at hl (i := 7) rfl) (k H locs ls hP hS hl)
theorem gl_istore_7 {o0 o1 o2 o3 o4 o5 o6 : Option Value} {o : Option Value} {T : List (Option Value)} {x : Int32} (C : gl_C cc ws own rm ret lay V) (d : decode cc pc = .ok (.istore 7, 2)) (k : gl_G lay ov M' V (pc + 2) (o0 :: o1 :: o2 :: o3 :: o4 :: o5 :: o6 :: some (.int x) :: T) st M) : gl_G lay ov M' V pc (o0 :: o1 :: o2 :: o3 :: o4 :: o5 :: o6 :: o :: T) (.int x :: st) M := by
  obtain ⟨F, p, e, R, s, m, args, below, meth, c, nL⟩ := V
  obtain ⟨hx, hb, hml, hown, hts, hK, hI, hok, hlk, hr, rfl⟩ := C
  intro H locs ls hP hS hl
  exact lv_istore hx hb d (gl_L_has hl) (show 7 < nL by have := hl.2.2.1; simp at this; omega) rfl (fun ls' h' => k H locs ls' hP hS (gl_L_set (i := 7) hl rfl h'))
theorem gl_iinc_7 {o0 o1 o2 o3 o4 o5 o6 : Option Value} {T : List (Option Value)} {x v : Int32} {n : Int} (C : gl_C cc ws own rm ret lay V) (d : decode cc pc = .ok (.iinc 7 n, 3)) (hn : x + Int32.ofInt n = v) (k : gl_G lay ov M' V (pc + 3) (o0 :: o1 :: o2 :: o3 :: o4 :: o5 :: o6 :: some (.int (v)) :: T) st M) : gl_G lay ov M' V pc (o0 :: o1 :: o2 :: o3 :: o4 :: o5 :: o6 :: some (.int (x)) :: T) st M := by
  obtain ⟨F, p, e, R, s, m, args, below, meth, c, nL⟩ := V
  obtain ⟨hx, hb, hml, hown, hts, hK, hI, hok, hlk, hr, rfl⟩ := C
  intro H locs ls hP hS hl
  obtain ⟨kk, hkk⟩ := List.mem_iff_getElem?.mp (gl_al_mem (i := 7).mpr (show (o0 :: o1 :: o2 :: o3 :: o4 :: o5 :: o6 :: some (Value.int (x)) :: T)[7]? = some (some (.int (x))) from rfl))
  exact lv_iinc hx hb d (gl_L_has hl) hkk hn (show 7 < nL by have := hl.2.2.1; simp at this; omega) rfl (fun ls' h' => k H locs ls' hP hS (gl_L_set (i := 7) hl rfl h'))
theorem gl_iincN_7 {o0 o1 o2 o3 o4 o5 o6 : Option Value} {T : List (Option Value)} {a : Nat} (v : Nat) (C : gl_C cc ws own rm ret lay V) (d : decode cc pc = .ok (.iinc 7 (v : Int), 3)) (k : gl_G lay ov M' V (pc + 3) (o0 :: o1 :: o2 :: o3 :: o4 :: o5 :: o6 :: some (.int (nI (a + v))) :: T) st M) : gl_G lay ov M' V pc (o0 :: o1 :: o2 :: o3 :: o4 :: o5 :: o6 :: some (.int (nI a)) :: T) st M := gl_iinc_7 C d (by rw [show Int32.ofInt (v : Int) = nI v from rfl]; exact nI_add a v) k
theorem gl_iload_8 {o0 o1 o2 o3 o4 o5 o6 o7 : Option Value} {T : List (Option Value)} {x : Int32} (C : gl_C cc ws own rm ret lay V) (d : decode cc pc = .ok (.iload 8, 2)) (k : gl_G lay ov M' V (pc + 2) (o0 :: o1 :: o2 :: o3 :: o4 :: o5 :: o6 :: o7 :: some (.int x) :: T) (.int x :: st) M) : gl_G lay ov M' V pc (o0 :: o1 :: o2 :: o3 :: o4 :: o5 :: o6 :: o7 :: some (.int x) :: T) st M := by
  obtain ⟨F, p, e, R, s, m, args, below, meth, c, nL⟩ := V
  obtain ⟨hx, hb, hml, hown, hts, hK, hI, hok, hlk, hr, rfl⟩ := C
  intro H locs ls hP hS hl
  exact lv_iload hx hb d (gl_L_at hl (i := 8) rfl) (k H locs ls hP hS hl)
theorem gl_istore_8 {o0 o1 o2 o3 o4 o5 o6 o7 : Option Value} {o : Option Value} {T : List (Option Value)} {x : Int32} (C : gl_C cc ws own rm ret lay V) (d : decode cc pc = .ok (.istore 8, 2)) (k : gl_G lay ov M' V (pc + 2) (o0 :: o1 :: o2 :: o3 :: o4 :: o5 :: o6 :: o7 :: some (.int x) :: T) st M) : gl_G lay ov M' V pc (o0 :: o1 :: o2 :: o3 :: o4 :: o5 :: o6 :: o7 :: o :: T) (.int x :: st) M := by
  obtain ⟨F, p, e, R, s, m, args, below, meth, c, nL⟩ := V
  obtain ⟨hx, hb, hml, hown, hts, hK, hI, hok, hlk, hr, rfl⟩ := C
  intro H locs ls hP hS hl
  exact lv_istore hx hb d (gl_L_has hl) (show 8 < nL by have := hl.2.2.1; simp at this; omega) rfl (fun ls' h' => k H locs ls' hP hS (gl_L_set (i := 8) hl rfl h'))
theorem gl_iinc_8 {o0 o1 o2 o3 o4 o5 o6 o7 : Option Value} {T : List (Option Value)} {x v : Int32} {n : Int} (C : gl_C cc ws own rm ret lay V) (d : decode cc pc = .ok (.iinc 8 n, 3)) (hn : x + Int32.ofInt n = v) (k : gl_G lay ov M' V (pc + 3) (o0 :: o1 :: o2 :: o3 :: o4 :: o5 :: o6 :: o7 :: some (.int (v)) :: T) st M) : gl_G lay ov M' V pc (o0 :: o1 :: o2 :: o3 :: o4 :: o5 :: o6 :: o7 :: some (.int (x)) :: T) st M := by
  obtain ⟨F, p, e, R, s, m, args, below, meth, c, nL⟩ := V
  obtain ⟨hx, hb, hml, hown, hts, hK, hI, hok, hlk, hr, rfl⟩ := C
  intro H locs ls hP hS hl
  obtain ⟨kk, hkk⟩ := List.mem_iff_getElem?.mp (gl_al_mem (i := 8).mpr (show (o0 :: o1 :: o2 :: o3 :: o4 :: o5 :: o6 :: o7 :: some (Value.int (x)) :: T)[8]? = some (some (.int (x))) from rfl))
  exact lv_iinc hx hb d (gl_L_has hl) hkk hn (show 8 < nL by have := hl.2.2.1; simp at this; omega) rfl (fun ls' h' => k H locs ls' hP hS (gl_L_set (i := 8) hl rfl h'))
theorem gl_iincN_8 {o0 o1 o2 o3 o4 o5 o6 o7 : Option Value} {T : List (Option Value)} {a : Nat} (v : Nat) (C : gl_C cc ws own rm ret lay V) (d : decode cc pc = .ok (.iinc 8 (v : Int), 3)) (k : gl_G lay ov M' V (pc + 3) (o0 :: o1 :: o2 :: o3 :: o4 :: o5 :: o6 :: o7 :: some (.int (nI (a + v))) :: T) st M) : gl_G lay ov M' V pc (o0 :: o1 :: o2 :: o3 :: o4 :: o5 :: o6 :: o7 :: some (.int (nI a)) :: T) st M := gl_iinc_8 C d (by rw [show Int32.ofInt (v : Int) = nI v from rfl]; exact nI_add a v) k
theorem gl_iload_9 {o0 o1 o2 o3 o4 o5 o6 o7 o8 : Option Value} {T : List (Option Value)} {x : Int32} (C : gl_C cc ws own rm ret lay V) (d : decode cc pc = .ok (.iload 9, 2)) (k : gl_G lay ov M' V (pc + 2) (o0 :: o1 :: o2 :: o3 :: o4 :: o5 :: o6 :: o7 :: o8 :: some (.int x) :: T) (.int x :: st) M) : gl_G lay ov M' V pc (o0 :: o1 :: o2 :: o3 :: o4 :: o5 :: o6 :: o7 :: o8 :: some (.int x) :: T) st M := by
  obtain ⟨F, p, e, R, s, m, args, below, meth, c, nL⟩ := V
  obtain ⟨hx, hb, hml, hown, hts, hK, hI, hok, hlk, hr, rfl⟩ := C
  intro H locs ls hP hS hl
  exact lv_iload hx hb d (gl_L_at hl (i := 9) rfl) (k H locs ls hP hS hl)
theorem gl_istore_9 {o0 o1 o2 o3 o4 o5 o6 o7 o8 : Option Value} {o : Option Value} {T : List (Option Value)} {x : Int32} (C : gl_C cc ws own rm ret lay V) (d : decode cc pc = .ok (.istore 9, 2)) (k : gl_G lay ov M' V (pc + 2) (o0 :: o1 :: o2 :: o3 :: o4 :: o5 :: o6 :: o7 :: o8 :: some (.int x) :: T) st M) : gl_G lay ov M' V pc (o0 :: o1 :: o2 :: o3 :: o4 :: o5 :: o6 :: o7 :: o8 :: o :: T) (.int x :: st) M := by
  obtain ⟨F, p, e, R, s, m, args, below, meth, c, nL⟩ := V
  obtain ⟨hx, hb, hml, hown, hts, hK, hI, hok, hlk, hr, rfl⟩ := C
  intro H locs ls hP hS hl
  exact lv_istore hx hb d (gl_L_has hl) (show 9 < nL by have := hl.2.2.1; simp at this; omega) rfl (fun ls' h' => k H locs ls' hP hS (gl_L_set (i := 9) hl rfl h'))
theorem gl_iinc_9 {o0 o1 o2 o3 o4 o5 o6 o7 o8 : Option Value} {T : List (Option Value)} {x v : Int32} {n : Int} (C : gl_C cc ws own rm ret lay V) (d : decode cc pc = .ok (.iinc 9 n, 3)) (hn : x + Int32.ofInt n = v) (k : gl_G lay ov M' V (pc + 3) (o0 :: o1 :: o2 :: o3 :: o4 :: o5 :: o6 :: o7 :: o8 :: some (.int (v)) :: T) st M) : gl_G lay ov M' V pc (o0 :: o1 :: o2 :: o3 :: o4 :: o5 :: o6 :: o7 :: o8 :: some (.int (x)) :: T) st M := by
  obtain ⟨F, p, e, R, s, m, args, below, meth, c, nL⟩ := V
  obtain ⟨hx, hb, hml, hown, hts, hK, hI, hok, hlk, hr, rfl⟩ := C
  intro H locs ls hP hS hl
  obtain ⟨kk, hkk⟩ := List.mem_iff_getElem?.mp (gl_al_mem (i := 9).mpr (show (o0 :: o1 :: o2 :: o3 :: o4 :: o5 :: o6 :: o7 :: o8 :: some (Value.int (x)) :: T)[9]? = some (some (.int (x))) from rfl))
  exact lv_iinc hx hb d (gl_L_has hl) hkk hn (show 9 < nL by have := hl.2.2.1; simp at this; omega) rfl (fun ls' h' => k H locs ls' hP hS (gl_L_set (i := 9) hl rfl h'))
theorem gl_iincN_9 {o0 o1 o2 o3 o4 o5 o6 o7 o8 : Option Value} {T : List (Option Value)} {a : Nat} (v : Nat) (C : gl_C cc ws own rm ret lay V) (d : decode cc pc = .ok (.iinc 9 (v : Int), 3)) (k : gl_G lay ov M' V (pc + 3) (o0 :: o1 :: o2 :: o3 :: o4 :: o5 :: o6 :: o7 :: o8 :: some (.int (nI (a + v))) :: T) st M) : gl_G lay ov M' V pc (o0 :: o1 :: o2 :: o3 :: o4 :: o5 :: o6 :: o7 :: o8 :: some (.int (nI a)) :: T) st M := gl_iinc_9 C d (by rw [show Int32.ofInt (v : Int) = nI v from rfl]; exact nI_add a v) k
theorem gl_iload_10 {o0 o1 o2 o3 o4 o5 o6 o7 o8 o9 : Option Value} {T : List (Option Value)} {x : Int32} (C : gl_C cc ws own rm ret lay V) (d : decode cc pc = .ok (.iload 10, 2)) (k : gl_G lay ov M' V (pc + 2) (o0 :: o1 :: o2 :: o3 :: o4 :: o5 :: o6 :: o7 :: o8 :: o9 :: some (.int x) :: T) (.int x :: st) M) : gl_G lay ov M' V pc (o0 :: o1 :: o2 :: o3 :: o4 :: o5 :: o6 :: o7 :: o8 :: o9 :: some (.int x) :: T) st M := by
  obtain ⟨F, p, e, R, s, m, args, below, meth, c, nL⟩ := V
  obtain ⟨hx, hb, hml, hown, hts, hK, hI, hok, hlk, hr, rfl⟩ := C
  intro H locs ls hP hS hl
  exact lv_iload hx hb d (gl_L_at hl (i := 10) rfl) (k H locs ls hP hS hl)
theorem gl_istore_10 {o0 o1 o2 o3 o4 o5 o6 o7 o8 o9 : Option Value} {o : Option Value} {T : List (Option Value)} {x : Int32} (C : gl_C cc ws own rm ret lay V) (d : decode cc pc = .ok (.istore 10, 2)) (k : gl_G lay ov M' V (pc + 2) (o0 :: o1 :: o2 :: o3 :: o4 :: o5 :: o6 :: o7 :: o8 :: o9 :: some (.int x) :: T) st M) : gl_G lay ov M' V pc (o0 :: o1 :: o2 :: o3 :: o4 :: o5 :: o6 :: o7 :: o8 :: o9 :: o :: T) (.int x :: st) M := by
  obtain ⟨F, p, e, R, s, m, args, below, meth, c, nL⟩ := V
  obtain ⟨hx, hb, hml, hown, hts, hK, hI, hok, hlk, hr, rfl⟩ := C
  intro H locs ls hP hS hl
  exact lv_istore hx hb d (gl_L_has hl) (show 10 < nL by have := hl.2.2.1; simp at this; omega) rfl (fun ls' h' => k H locs ls' hP hS (gl_L_set (i := 10) hl rfl h'))
theorem gl_iinc_10 {o0 o1 o2 o3 o4 o5 o6 o7 o8 o9 : Option Value} {T : List (Option Value)} {x v : Int32} {n : Int} (C : gl_C cc ws own rm ret lay V) (d : decode cc pc = .ok (.iinc 10 n, 3)) (hn : x + Int32.ofInt n = v) (k : gl_G lay ov M' V (pc + 3) (o0 :: o1 :: o2 :: o3 :: o4 :: o5 :: o6 :: o7 :: o8 :: o9 :: some (.int (v)) :: T) st M) : gl_G lay ov M' V pc (o0 :: o1 :: o2 :: o3 :: o4 :: o5 :: o6 :: o7 :: o8 :: o9 :: some (.int (x)) :: T) st M := by
  obtain ⟨F, p, e, R, s, m, args, below, meth, c, nL⟩ := V
  obtain ⟨hx, hb, hml, hown, hts, hK, hI, hok, hlk, hr, rfl⟩ := C
  intro H locs ls hP hS hl
  obtain ⟨kk, hkk⟩ := List.mem_iff_getElem?.mp (gl_al_mem (i := 10).mpr (show (o0 :: o1 :: o2 :: o3 :: o4 :: o5 :: o6 :: o7 :: o8 :: o9 :: some (Value.int (x)) :: T)[10]? = some (some (.int (x))) from rfl))
  exact lv_iinc hx hb d (gl_L_has hl) hkk hn (show 10 < nL by have := hl.2.2.1; simp at this; omega) rfl (fun ls' h' => k H locs ls' hP hS (gl_L_set (i := 10) hl rfl h'))
theorem gl_iincN_10 {o0 o1 o2 o3 o4 o5 o6 o7 o8 o9 : Option Value} {T : List (Option Value)} {a : Nat} (v : Nat) (C : gl_C cc ws own rm ret lay V) (d : decode cc pc = .ok (.iinc 10 (v : Int), 3)) (k : gl_G lay ov M' V (pc + 3) (o0 :: o1 :: o2 :: o3 :: o4 :: o5 :: o6 :: o7 :: o8 :: o9 :: some (.int (nI (a + v))) :: T) st M) : gl_G lay ov M' V pc (o0 :: o1 :: o2 :: o3 :: o4 :: o5 :: o6 :: o7 :: o8 :: o9 :: some (.int (nI a)) :: T) st M := gl_iinc_10 C d (by rw [show Int32.ofInt (v : Int) = nI v from rfl]; exact nI_add a v) k
theorem gl_iload_11 {o0 o1 o2 o3 o4 o5 o6 o7 o8 o9 o10 : Option Value} {T : List (Option Value)} {x : Int32} (C : gl_C cc ws own rm ret lay V) (d : decode cc pc = .ok (.iload 11, 2)) (k : gl_G lay ov M' V (pc + 2) (o0 :: o1 :: o2 :: o3 :: o4 :: o5 :: o6 :: o7 :: o8 :: o9 :: o10 :: some (.int x) :: T) (.int x :: st) M) : gl_G lay ov M' V pc (o0 :: o1 :: o2 :: o3 :: o4 :: o5 :: o6 :: o7 :: o8 :: o9 :: o10 :: some (.int x) :: T) st M := by
  obtain ⟨F, p, e, R, s, m, args, below, meth, c, nL⟩ := V
  obtain ⟨hx, hb, hml, hown, hts, hK, hI, hok, hlk, hr, rfl⟩ := C
  intro H locs ls hP hS hl
  exact lv_iload hx hb d (gl_L_at hl (i := 11) rfl) (k H locs ls hP hS hl)
theorem gl_istore_11 {o0 o1 o2 o3 o4 o5 o6 o7 o8 o9 o10 : Option Value} {o : Option Value} {T : List (Option Value)} {x : Int32} (C : gl_C cc ws own rm ret lay V) (d : decode cc pc = .ok (.istore 11, 2)) (k : gl_G lay ov M' V (pc + 2) (o0 :: o1 :: o2 :: o3 :: o4 :: o5 :: o6 :: o7 :: o8 :: o9 :: o10 :: some (.int x) :: T) st M) : gl_G lay ov M' V pc (o0 :: o1 :: o2 :: o3 :: o4 :: o5 :: o6 :: o7 :: o8 :: o9 :: o10 :: o :: T) (.int x :: st) M := by
  obtain ⟨F, p, e, R, s, m, args, below, meth, c, nL⟩ := V
  obtain ⟨hx, hb, hml, hown, hts, hK, hI, hok, hlk, hr, rfl⟩ := C
  intro H locs ls hP hS hl
  exact lv_istore hx hb d (gl_L_has hl) (show 11 < nL by have := hl.2.2.1; simp at this; omega) rfl (fun ls' h' => k H locs ls' hP hS (gl_L_set (i := 11) hl rfl h'))
theorem gl_iinc_11 {o0 o1 o2 o3 o4 o5 o6 o7 o8 o9 o10 : Option Value} {T : List (Option Value)} {x v : Int32} {n : Int} (C : gl_C cc ws own rm ret lay V) (d : decode cc pc = .ok (.iinc 11 n, 3)) (hn : x + Int32.ofInt n = v) (k : gl_G lay ov M' V (pc + 3) (o0 :: o1 :: o2 :: o3 :: o4 :: o5 :: o6 :: o7 :: o8 :: o9 :: o10 :: some (.int (v)) :: T) st M) : gl_G lay ov M' V pc (o0 :: o1 :: o2 :: o3 :: o4 :: o5 :: o6 :: o7 :: o8 :: o9 :: o10 :: some (.int (x)) :: T) st M := by
  obtain ⟨F, p, e, R, s, m, args, below, meth, c, nL⟩ := V
  obtain ⟨hx, hb, hml, hown, hts, hK, hI, hok, hlk, hr, rfl⟩ := C
  intro H locs ls hP hS hl
  obtain ⟨kk, hkk⟩ := List.mem_iff_getElem?.mp (gl_al_mem (i := 11).mpr (show (o0 :: o1 :: o2 :: o3 :: o4 :: o5 :: o6 :: o7 :: o8 :: o9 :: o10 :: some (Value.int (x)) :: T)[11]? = some (some (.int (x))) from rfl))
  exact lv_iinc hx hb d (gl_L_has hl) hkk hn (show 11 < nL by have := hl.2.2.1; simp at this; omega) rfl (fun ls' h' => k H locs ls' hP hS (gl_L_set (i := 11) hl rfl h'))
theorem gl_iincN_11 {o0 o1 o2 o3 o4 o5 o6 o7 o8 o9 o10 : Option Value} {T : List (Option Value)} {a : Nat} (v : Nat) (C : gl_C cc ws own rm ret lay V) (d : decode cc pc = .ok (.iinc 11 (v : Int), 3)) (k : gl_G lay ov M' V (pc + 3) (o0 :: o1 :: o2 :: o3 :: o4 :: o5 :: o6 :: o7 :: o8 :: o9 :: o10 :: some (.int (nI (a + v))) :: T) st M) : gl_G lay ov M' V pc (o0 :: o1 :: o2 :: o3 :: o4 :: o5 :: o6 :: o7 :: o8 :: o9 :: o10 :: some (.int (nI a)) :: T) st M := gl_iinc_11 C d (by rw [show Int32.ofInt (v : Int) = nI v from rfl]; exact nI_add a v) k
/-- a field that an instruction of a method reads or writes: pool index, class, slot -/
def gl_fl (ws : List Cond) (own : String) (index ci k : Nat) : Prop := ∃ (Cl : String) (T : u_T) (N : Nat) (ref : String), vwCl[ci]? = some (Cl, T, N) ∧ k < N ∧ (∀ w ∈ u_ws Cl T N, w ∈ ws) ∧ Cond.fieldLink own index ref (T k).2.1 (T k).2.2.1 ∈ ws ∧ ref = (T k).1
def gl_fp (ws : List Cond) (own : String) (index ci k : Nat) : Prop := ∃ (Cl : String) (T : u_T) (N : Nat) (ref : String) (ty0 : Nat → FieldType), vwCl[ci]? = some (Cl, T, N) ∧ k < N ∧ (∀ w ∈ u_ws Cl T N, w ∈ ws) ∧ Cond.fieldLink own index ref (T k).2.1 (T k).2.2.1 ∈ ws ∧ ref = (T k).1 ∧ (∀ k, k < N → parseFieldDescriptor (T k).2.2.1 = some (ty0 k)) ∧ (∀ a, a < N → ∀ b, b < N → a ≠ b → (T a).2.1 ≠ (T b).2.1) ∧ (T k).2.2.2 = false ∧ parseFieldDescriptor (T k).2.2.1 = some .int
theorem gl_get {index j ci k : Nat} {fs : List (Nat ⊕ Nat)} {x : Nat ⊕ Nat} (C : gl_C cc ws own rm ret lay V) (d : decode cc pc = .ok (.getfield index, 3)) (f : gl_fl ws own index ci k) (hj : lay[j]? = some (.inr (.inl (ci, fs)))) (hk : fs[k]? = some x)
    (h : gl_G lay ov M' V (pc + 3) L (gl_v V.1 M x :: st) M) : gl_G lay ov M' V pc L (.ref (gl_r V.1 j) :: st) M := by
  obtain ⟨F, p, e, R, s, m, args, below, meth, c, nL⟩ := V
  obtain ⟨hx, hb, hml, hown, hts, hK, hI, hok, hlk, hr, rfl⟩ := C
  intro H locs ls hP hS hl
  obtain ⟨Cl, T, N, ref, f1, f2, f3, f4, f5⟩ := f
  subst f5
  exact va_get (D := F.2.1) (ci := ci) (v := gl_v F M x) (C := Cl) (T := T) (N := N) hx hb hts f3 hown hK hP j (gl_w_at hj) f1 k f2 (hts _ f4) (fun _ h9 => h9) (by rw [List.getElem?_map, hk]; rfl) d (h H locs ls hP hS hl)
theorem gl_getI {index j ci k i : Nat} {fs : List (Nat ⊕ Nat)} (C : gl_C cc ws own rm ret lay V) (d : decode cc pc = .ok (.getfield index, 3)) (f : gl_fl ws own index ci k) (hj : lay[j]? = some (.inr (.inl (ci, fs)))) (hk : fs[k]? = some (.inl i))
    (h : gl_G lay ov M' V (pc + 3) L (.int (M i) :: st) M) : gl_G lay ov M' V pc L (.ref (gl_r V.1 j) :: st) M := gl_get C d f hj hk h
theorem gl_getR {index j ci k i : Nat} {fs : List (Nat ⊕ Nat)} (C : gl_C cc ws own rm ret lay V) (d : decode cc pc = .ok (.getfield index, 3)) (f : gl_fl ws own index ci k) (hj : lay[j]? = some (.inr (.inl (ci, fs)))) (hk : fs[k]? = some (.inr i))
    (h : gl_G lay ov M' V (pc + 3) L (.ref (gl_r V.1 i) :: st) M) : gl_G lay ov M' V pc L (.ref (gl_r V.1 j) :: st) M := gl_get C d f hj hk h
theorem gl_put {index j ci k i : Nat} {fs : List (Nat ⊕ Nat)} {x : Int32} (C : gl_C cc ws own rm ret lay V) (d : decode cc pc = .ok (.putfield index, 3)) (f : gl_fp ws own index ci k) (hj : lay[j]? = some (.inr (.inl (ci, fs)))) (hk : fs[k]? = some (.inl i))
    (h : gl_G lay ov M' V (pc + 3) L st (upd M i x)) : gl_G lay ov M' V pc L (.int x :: .ref (gl_r V.1 j) :: st) M := by
  obtain ⟨F, p, e, R, s, m, args, below, meth, c, nL⟩ := V
  obtain ⟨hx, hb, hml, hown, hts, hK, hI, hok, hlk, hr, rfl⟩ := C
  intro H locs ls hP hS hl
  obtain ⟨Cl, T, N, ref, ty0, f1, f2, f3, f4, f5, f6, f7, f8, f9⟩ := f
  subst f5
  exact va_put (D := F.2.1) (ci := ci) (v := .int x) (ty := .int) (C := Cl) (T := T) (N := N) hx hb hts f3 ty0 f6 f7 hown hK hP (gl_w_D hI) hS j (gl_w_at hj) f1 k f2 (hts _ f4) (fun _ h9 => h9) f8 f9 rfl rfl (by rw [List.length_map]; exact (List.getElem?_eq_some_iff.mp hk).1) d (fun H1 locs1 hP1 _ hS1 => h H1 locs1 ls (gl_set_fld hok hj hk x ▸ hP1) hS1 hl)
theorem gl_iald {j n : Nat} {f : Nat → Nat} {i : Int32} (k : Nat) (C : gl_C cc ws own rm ret lay V) (d : decode cc pc = .ok (.iaload, 1)) (hj : lay[j]? = some (.inl (n, f))) (hi : i = nI k) (hk : k < n)
    (h : gl_G lay ov M' V (pc + 1) L (.int (M (f k)) :: st) M) : gl_G lay ov M' V pc L (.int i :: .ref (gl_r V.1 j) :: st) M := by
  obtain ⟨F, p, e, R, s, m, args, below, meth, c, nL⟩ := V
  obtain ⟨hx, hb, hml, hown, hts, hK, hI, hok, hlk, hr, rfl⟩ := C
  intro H locs ls hP hS hl
  have hn : n < 2 ^ 31 := hok.2 j _ hj
  subst hi
  have h1 := nI_clamp (n := k) (by omega)
  refine va_iald (D := F.2.1) hx hb hK hP j 0 (gl_w_at hj) rfl (vp_in_nI hk hn) d ?_
  rw [h1, if_pos hk]
  exact h H locs ls hP hS hl
theorem gl_iast {j n : Nat} {f : Nat → Nat} {i x : Int32} (k : Nat) (C : gl_C cc ws own rm ret lay V) (d : decode cc pc = .ok (.iastore, 1)) (hj : lay[j]? = some (.inl (n, f))) (hi : i = nI k) (hk : k < n)
    (h : gl_G lay ov M' V (pc + 1) L st (upd M (f k) x)) : gl_G lay ov M' V pc L (.int x :: .int i :: .ref (gl_r V.1 j) :: st) M := by
  obtain ⟨F, p, e, R, s, m, args, below, meth, c, nL⟩ := V
  obtain ⟨hx, hb, hml, hown, hts, hK, hI, hok, hlk, hr, rfl⟩ := C
  intro H locs ls hP hS hl
  have hn : n < 2 ^ 31 := hok.2 j _ hj
  subst hi
  have h1 := nI_clamp (n := k) (by omega)
  refine va_iast (D := F.2.1) hx hb hK hP (gl_w_D hI) hS j 0 (gl_w_at hj) rfl (vp_in_nI hk hn) d (fun H1 locs1 hP1 _ hS1 => ?_)
  rw [h1] at hP1
  exact h H1 locs1 ls (gl_set_arr hok hj hk x ▸ hP1) hS1 hl
theorem gl_aald {j n : Nat} {g : Nat → Nat} {i : Int32} (k : Nat) (C : gl_C cc ws own rm ret lay V) (d : decode cc pc = .ok (.aaload, 1)) (hj : lay[j]? = some (.inr (.inr (n, g)))) (hi : i = nI k) (hk : k < n)
    (h : gl_G lay ov M' V (pc + 1) L (.ref (gl_r V.1 (g k)) :: st) M) : gl_G lay ov M' V pc L (.int i :: .ref (gl_r V.1 j) :: st) M := by
  obtain ⟨F, p, e, R, s, m, args, below, meth, c, nL⟩ := V
  obtain ⟨hx, hb, hml, hown, hts, hK, hI, hok, hlk, hr, rfl⟩ := C
  intro H locs ls hP hS hl
  have hn : n < 2 ^ 31 := hok.2 j _ hj
  subst hi
  have h1 := nI_clamp (n := k) (by omega)
  refine va_aldq (D := F.2.1) hx hb hK hP j 1 (gl_w_at hj) rfl (vp_in_nI hk hn) d ?_
  rw [h1]
  exact h H locs ls hP hS hl
theorem gl_iret {v w : Int32} (C : gl_C cc ws own rm (some .int) lay V) (d : decode cc pc = .ok (.ireturn, 1)) (hv : v = w) (hM : M = M') : gl_G lay (some (.int w)) M' V pc L [.int v] M := by
  obtain ⟨F, p, e, R, s, m, args, below, meth, c, nL⟩ := V
  obtain ⟨hx, hb, hml, hown, hts, hK, hI, hok, hlk, hr, rfl⟩ := C
  subst hv
  subst hM
  intro H locs ls hP hS hl
  exact W.iret hx hb hr (fun t ht hW => ⟨rfl, by rw [ht]; exact hP, hS.F ht⟩) hS.2.2 d hlk
/-- a boolean's end: 0 or 1 -/
theorem gl_zret {v w : Int32} (C : gl_C cc ws own rm (some .boolean) lay V) (d : decode cc pc = .ok (.ireturn, 1)) (hn : narrow .boolean (.int v) = .int v) (hv : v = w) (hM : M = M') : gl_G lay (some (.int w)) M' V pc L [.int v] M := by
  obtain ⟨F, p, e, R, s, m, args, below, meth, c, nL⟩ := V
  obtain ⟨hx, hb, hml, hown, hts, hK, hI, hok, hlk, hr, rfl⟩ := C
  subst hv
  subst hM
  intro H locs ls hP hS hl
  exact W.zret hx hb hr hn (fun t ht hW => ⟨rfl, by rw [ht]; exact hP, hS.F ht⟩) hS.2.2 d hlk
theorem gl_vret (C : gl_C cc ws own rm none lay V) (d : decode cc pc = .ok (.return_, 1)) (hM : M = M') : gl_G lay none M' V pc L [] M := by
  obtain ⟨F, p, e, R, s, m, args, below, meth, c, nL⟩ := V
  obtain ⟨hx, hb, hml, hown, hts, hK, hI, hok, hlk, hr, rfl⟩ := C
  subst hM
  intro H locs ls hP hS hl
  exact W.vret hx hb hr (fun t ht hW => ⟨rfl, by rw [ht]; exact hP, hS.F ht⟩) hS.2.2 d hlk
/-! calls -/
theorem gl_blind {F : gl_F} {av : List Value} : FrameBlind (gl_Pc F lay av M) := fun a U g mk q => ⟨q.1, q.2.1, va_K.moved (u := U) (U := U.calling g mk a) (Vm.Alike.refl U.vm) q.2.2.1, q.2.2.2⟩
theorem gl_goon {F : gl_F} {p : Program} {e : Env} {R : Room} {s : State} {m : MethodId} {args : Array Value} {below : List Frame} {meth : Method} {c : Code} {nL : Nat} {H : Heap} {locs : List Loc} {ls : Array Slot} {ov1 : Option Value} {a : Array Value} {st0 : List Value}
    (hr : va_Run p F.1 e R s m args below meth c H locs 0 0 0 0 (F0 m pc ls st0) rest (gl_Q F lay ov1 M1 a) (gl_A F lay)) (hS : va_S (gl_A F lay) s.heap H locs) (hl : gl_L nL ls L)
    (k : gl_G lay ov M' (F, p, e, R, s, m, args, below, meth, c, nL) (pc + 3) L (ov1.toList ++ rest) M1) : W p F.1 e R s m args below meth c H locs 0 0 (MQ below (gl_Q F lay ov M') args s 0 0 (gl_A F lay)) (F0 m pc ls st0) := by
  intro T hT X
  obtain ⟨v, st₀, t, T', L2, h0, X', hL, e1, e2, ⟨hv, hp, hz, hk⟩, st⟩ := hr T hT X
  cases hv
  rw [h0] at hz hk
  obtain ⟨t2, a1, b1⟩ := k T'.heap (locs ++ L2) ls (by rw [e1]; exact hp) ⟨Nat.le_trans hS.1 (by rw [e1]; exact hz), fun q h1 h2 => by rw [e1, hk q (Nat.lt_of_lt_of_le h1 hS.1) h2]; exact hS.2.1 q h1 h2, fun q hq => by
      rcases List.mem_append.mp hq with h | h
      · exact hS.2.2 q h
      · exact hL q h⟩ hl T' rfl X'
  exact ⟨t2, st t2 a1, b1⟩
def gl_hd (y : MethodName) (Cl : String) (n : Nat) : Prop := y.cls = Cl ∧ y.cls ≠ "java/lang/invoke/MethodHandle" ∧ y.cls ≠ "java/lang/invoke/VarHandle" ∧ (parseMethodDescriptor y.desc).map (fun d => d.parameters.length) = some n
theorem gl_callV {index j ci n maxL N : Nat} {T : u_T} {fs : List (Nat ⊕ Nat)} {Cl : String} {y : MethodName} {wsc wsc' : List Cond} {bytes : ByteArray} {retc : Option FieldType} {rmc : Room} {As : List Value} {ov1 : Option Value}
    (C : gl_C cc ws own rm ret lay V) (d : decode cc pc = .ok (.invokevirtual index, 3)) (g : GoodIn ws (wsV own index Cl y wsc)) (hw : wsc = Cond.code y bytes maxL retc :: wsc') (hd : gl_hd y Cl n)
    (hrm : rmc.cells = 0 ∧ rmc.slots = 0 ∧ rmc.frames + 1 ≤ rm.frames ∧ 8 + (maxL + 11) + rmc.locals ≤ rm.locals) (hn : As.length = n) (hrest : (rest.map fun v => v.category).sum ≤ 8) (hst : st = As.reverse ++ .ref (gl_r V.1 j) :: rest)
    (hj : lay[j]? = some (.inr (.inl (ci, fs)))) (hci : vwCl[ci]? = some (Cl, T, N)) (ct : gl_Ct V.1 lay y wsc rmc (.ref (gl_r V.1 j) :: As) M ov1 M1)
    (k : gl_G lay ov M' V (pc + 3) L (ov1.toList ++ rest) M1) : gl_G lay ov M' V pc L st M := by
  obtain ⟨F, p, e, R, s, m, args, below, meth, c, nL⟩ := V
  obtain ⟨hx, hb, hml, hown, hts, hK, hI, hok, hlk, hr, rfl⟩ := C
  intro H locs ls hP hS hl
  subst hst
  refine gl_goon (va_runV (As := As) (rest := rest) ⟨hx, hb, hml, hown, hts⟩ ct (cwV n hts g hw hrm.1 hrm.2.1 hd hrm.2.2) ⟨gl_blind, va_recv hK hP hci (gl_w_at hj), fun U hU hW => ⟨rfl, by rw [hU]; exact hP, va_K.moved hW.alike hK, hI⟩⟩ rfl hn hl.1 rfl (lv_room hrest) d ⟨Nat.zero_le _, Nat.zero_le _⟩) hS hl k
theorem gl_callS {index n maxL : Nat} {y : MethodName} {wsc wsc' : List Cond} {bytes : ByteArray} {retc : Option FieldType} {rmc : Room} {As : List Value} {ov1 : Option Value}
    (C : gl_C cc ws own rm ret lay V) (d : decode cc pc = .ok (.invokestatic index, 3)) (g : GoodIn ws (va_wsS own index y wsc)) (hw : wsc = Cond.code y bytes maxL retc :: wsc') (hd : gl_hd y y.cls n)
    (hrm : rmc.cells = 0 ∧ rmc.slots = 0 ∧ rmc.frames + 1 ≤ rm.frames ∧ 8 + (maxL + 11) + rmc.locals ≤ rm.locals) (hn : As.length = n) (hrest : (rest.map fun v => v.category).sum ≤ 8) (hst : st = As.reverse ++ rest)
    (ct : gl_Ct V.1 lay y wsc rmc As M ov1 M1)
    (k : gl_G lay ov M' V (pc + 3) L (ov1.toList ++ rest) M1) : gl_G lay ov M' V pc L st M := by
  obtain ⟨F, p, e, R, s, m, args, below, meth, c, nL⟩ := V
  obtain ⟨hx, hb, hml, hown, hts, hK, hI, hok, hlk, hr, rfl⟩ := C
  intro H locs ls hP hS hl
  subst hst
  refine gl_goon (va_runS (As := As) (rest := rest) ⟨hx, hb, hml, hown, hts⟩ ct (va_cwS n hts g hw hrm.1 hrm.2.1 hd.2 hrm.2.2) ⟨gl_blind, fun U hU hW => ⟨rfl, by rw [hU]; exact hP, va_K.moved hW.alike hK, hI⟩⟩ rfl hn hl.1 rfl (lv_room hrest) d ⟨Nat.zero_le _, Nat.zero_le _⟩) hS hl k
theorem gl_callVi {index j ci n maxL N : Nat} {T : u_T} {fs : List (Nat ⊕ Nat)} {Cl : String} {y : MethodName} {wsc wsc' : List Cond} {bytes : ByteArray} {retc : Option FieldType} {rmc : Room} {As : List Value} {v : Int32}
    (ct : gl_Ct V.1 lay y wsc rmc (.ref (gl_r V.1 j) :: As) M (some (.int v)) M1) (C : gl_C cc ws own rm ret lay V) (d : decode cc pc = .ok (.invokevirtual index, 3)) (g : GoodIn ws (wsV own index Cl y wsc)) (hw : wsc = Cond.code y bytes maxL retc :: wsc') (hd : gl_hd y Cl n)
    (hrm : rmc.cells = 0 ∧ rmc.slots = 0 ∧ rmc.frames + 1 ≤ rm.frames ∧ 8 + (maxL + 11) + rmc.locals ≤ rm.locals) (hn : As.length = n) (hrest : (rest.map fun v => v.category).sum ≤ 8) (hst : st = As.reverse ++ .ref (gl_r V.1 j) :: rest)
    (hj : lay[j]? = some (.inr (.inl (ci, fs)))) (hci : vwCl[ci]? = some (Cl, T, N)) (k : gl_G lay ov M' V (pc + 3) L (.int v :: rest) M1) : gl_G lay ov M' V pc L st M :=
  gl_callV C d g hw hd hrm hn hrest hst hj hci ct k
theorem gl_callVv {index j ci n maxL N : Nat} {T : u_T} {fs : List (Nat ⊕ Nat)} {Cl : String} {y : MethodName} {wsc wsc' : List Cond} {bytes : ByteArray} {retc : Option FieldType} {rmc : Room} {As : List Value}
    (ct : gl_Ct V.1 lay y wsc rmc (.ref (gl_r V.1 j) :: As) M none M1) (C : gl_C cc ws own rm ret lay V) (d : decode cc pc = .ok (.invokevirtual index, 3)) (g : GoodIn ws (wsV own index Cl y wsc)) (hw : wsc = Cond.code y bytes maxL retc :: wsc') (hd : gl_hd y Cl n)
    (hrm : rmc.cells = 0 ∧ rmc.slots = 0 ∧ rmc.frames + 1 ≤ rm.frames ∧ 8 + (maxL + 11) + rmc.locals ≤ rm.locals) (hn : As.length = n) (hrest : (rest.map fun v => v.category).sum ≤ 8) (hst : st = As.reverse ++ .ref (gl_r V.1 j) :: rest)
    (hj : lay[j]? = some (.inr (.inl (ci, fs)))) (hci : vwCl[ci]? = some (Cl, T, N)) (k : gl_G lay ov M' V (pc + 3) L rest M1) : gl_G lay ov M' V pc L st M :=
  gl_callV C d g hw hd hrm hn hrest hst hj hci ct k
theorem gl_callSi {index n maxL : Nat} {y : MethodName} {wsc wsc' : List Cond} {bytes : ByteArray} {retc : Option FieldType} {rmc : Room} {As : List Value} {v : Int32}
    (ct : gl_Ct V.1 lay y wsc rmc As M (some (.int v)) M1) (C : gl_C cc ws own rm ret lay V) (d : decode cc pc = .ok (.invokestatic index, 3)) (g : GoodIn ws (va_wsS own index y wsc)) (hw : wsc = Cond.code y bytes maxL retc :: wsc') (hd : gl_hd y y.cls n)
    (hrm : rmc.cells = 0 ∧ rmc.slots = 0 ∧ rmc.frames + 1 ≤ rm.frames ∧ 8 + (maxL + 11) + rmc.locals ≤ rm.locals) (hn : As.length = n) (hrest : (rest.map fun v => v.category).sum ≤ 8) (hst : st = As.reverse ++ rest)
    (k : gl_G lay ov M' V (pc + 3) L (.int v :: rest) M1) : gl_G lay ov M' V pc L st M := gl_callS C d g hw hd hrm hn hrest hst ct k
theorem gl_callSv {index n maxL : Nat} {y : MethodName} {wsc wsc' : List Cond} {bytes : ByteArray} {retc : Option FieldType} {rmc : Room} {As : List Value}
    (ct : gl_Ct V.1 lay y wsc rmc As M none M1) (C : gl_C cc ws own rm ret lay V) (d : decode cc pc = .ok (.invokestatic index, 3)) (g : GoodIn ws (va_wsS own index y wsc)) (hw : wsc = Cond.code y bytes maxL retc :: wsc') (hd : gl_hd y y.cls n)
    (hrm : rmc.cells = 0 ∧ rmc.slots = 0 ∧ rmc.frames + 1 ≤ rm.frames ∧ 8 + (maxL + 11) + rmc.locals ≤ rm.locals) (hn : As.length = n) (hrest : (rest.map fun v => v.category).sum ≤ 8) (hst : st = As.reverse ++ rest)
    (k : gl_G lay ov M' V (pc + 3) L rest M1) : gl_G lay ov M' V pc L st M := gl_callS C d g hw hd hrm hn hrest hst ct k
theorem gl_abs {index : Nat} {x : Int32} (C : gl_C cc ws own rm ret lay V) (d : decode cc pc = .ok (.invokestatic index, 3)) (h1 : Cond.methodLink own index Lib.Math.abs.name ∈ ws) (h2 : Cond.static Lib.Math.abs.name ∈ ws) (h3 : Cond.initialized "java/lang/Math" ∈ ws) (h4 : Cond.code Lib.Math.abs.name Lib.Math.abs.code 1 (some .int) ∈ ws)
    (hrm : 1 ≤ rm.frames ∧ (st.map fun v => v.category).sum + 13 ≤ rm.locals) (k : gl_G lay ov M' V (pc + 3) L (.int (if 0 ≤ x then x else 0 - x) :: st) M) : gl_G lay ov M' V pc L (.int x :: st) M := by
  obtain ⟨F, p, e, R, s, m, args, below, meth, c, nL⟩ := V
  obtain ⟨hx, hb, hml, hown, hts, hK, hI, hok, hlk, hr, rfl⟩ := C
  intro H locs ls hP hS hl
  exact va_mabs hx hb (by rw [hml]; exact hl.1.symm) hown (hts _ h1) (hts _ h2) (hts _ h3) (hts _ h4) hrm.1 hrm.2 (Nat.zero_le _) (Nat.zero_le _) d (k H locs ls hP hS hl)
theorem gl_min {index : Nat} {x y : Int32} (C : gl_C cc ws own rm ret lay V) (d : decode cc pc = .ok (.invokestatic index, 3)) (h1 : Cond.methodLink own index Lib.Math.min.name ∈ ws) (h2 : Cond.static Lib.Math.min.name ∈ ws) (h3 : Cond.initialized "java/lang/Math" ∈ ws) (h4 : Cond.code Lib.Math.min.name Lib.Math.min.code 2 (some .int) ∈ ws)
    (hrm : 1 ≤ rm.frames ∧ (st.map fun v => v.category).sum + 13 ≤ rm.locals) (k : gl_G lay ov M' V (pc + 3) L (.int (if y < x then y else x) :: st) M) : gl_G lay ov M' V pc L (.int y :: .int x :: st) M := by
  obtain ⟨F, p, e, R, s, m, args, below, meth, c, nL⟩ := V
  obtain ⟨hx, hb, hml, hown, hts, hK, hI, hok, hlk, hr, rfl⟩ := C
  intro H locs ls hP hS hl
  exact va_mmin hx hb (by rw [hml]; exact hl.1.symm) hown (hts _ h1) (hts _ h2) (hts _ h3) (hts _ h4) hrm.1 hrm.2 (Nat.zero_le _) (Nat.zero_le _) d (k H locs ls hP hS hl)
/-- one row of numbers whole into another one -/
theorem gl_copy {index j0 j1 n : Nat} {f0 f1 : Nat → Nat} (C : gl_C cc ws own rm ret lay V) (d : decode cc pc = .ok (.invokestatic index, 3)) (h1 : Cond.methodLink own index arraycopyName ∈ ws) (h2 : Cond.native arraycopyName ∈ ws) (h3 : Cond.static arraycopyName ∈ ws) (h4 : Cond.initialized "java/lang/System" ∈ ws)
    (hrm : 1 ≤ rm.frames ∧ (st.map fun v => v.category).sum + (nativeFrameWords "java/lang/System" "arraycopy" 5 + 11) ≤ rm.locals)
    (hj0 : lay[j0]? = some (.inl (n, f0))) (hj1 : lay[j1]? = some (.inl (n, f1))) (M1 : Nat → Int32) (g1 : ∀ k, k < n → M1 (f1 k) = M (f0 k)) (g2 : ∀ (j : Nat) (c : gl_Ce) (k i : Nat), lay[j]? = some c → j ≠ j1 → gl_at c k = some i → M1 i = M i)
    (k : gl_G lay ov M' V (pc + 3) L st M1) : gl_G lay ov M' V pc L (.int (nI n) :: .int (nI 0) :: .ref (gl_r V.1 j1) :: .int (nI 0) :: .ref (gl_r V.1 j0) :: st) M := by
  obtain ⟨F, p, e, R, s, m, args, below, meth, c, nL⟩ := V
  obtain ⟨hx, hb, hml, hown, hts, hK, hI, hok, hlk, hr, rfl⟩ := C
  intro H locs ls hP hS hl
  have hn : n < 2 ^ 31 := hok.2 j0 _ hj0
  have e0 : (nI 0).toNatClampNeg = 0 := nI_clamp (by omega)
  have en : (nI n).toNatClampNeg = n := nI_clamp hn
  refine va_copyi (D := F.2.1) (ty := .int) hx hb (by rw [hml]; exact hl.1.symm) hown (hts _ h1) (hts _ h2) (hts _ h3) (hts _ h4) hK hP (gl_w_D hI) hS j0 j1 0 0 (gl_w_at hj0) (gl_w_at hj1) rfl rfl rfl (nI_pos (by omega)) (nI_pos (by omega)) (nI_pos hn) (by rw [e0, en]; omega) (by rw [e0, en]; omega) (fun _ _ => rfl) hrm.1 hrm.2 d (fun H1 locs1 hP1 _ hS1 => ?_)
  refine k H1 locs1 ls ?_ hS1 hl
  rw [e0, en] at hP1
  have e : (gl_w F lay M).set j1 (gl_r F j1, .inl (F.2.2.1, n, .inl (va_cpy (fun i => if i < n then M (f0 i) else 0) (fun i => if i < n then M (f1 i) else 0) 0 0 n))) = gl_w F lay M1 := by
    apply List.ext_getElem?
    intro j'
    by_cases hjj : j' = j1
    · subst hjj
      rw [List.getElem?_set_self (by rw [gl_w_len]; exact (List.getElem?_eq_some_iff.mp hj1).1), gl_w_at hj1]
      have e : va_cpy (fun i => if i < n then M (f0 i) else 0) (fun i => if i < n then M (f1 i) else 0) 0 0 n = (fun i => if i < n then M1 (f1 i) else 0) := by
        funext i
        unfold va_cpy
        by_cases hi : i < n
        · rw [if_pos ⟨Nat.zero_le _, by omega⟩]
          show (if 0 + (i - 0) < n then M (f0 (0 + (i - 0))) else 0) = _
          rw [Nat.zero_add, Nat.sub_zero, if_pos hi, if_pos hi, g1 i hi]
        · rw [if_neg (by omega)]
          show (if i < n then M (f1 i) else 0) = _
          rw [if_neg hi, if_neg hi]
      simp only [gl_e, e]
    · rw [List.getElem?_set_ne (Ne.symm hjj)]
      cases hc : lay[j']? with
      | none =>
        rw [List.getElem?_eq_none (by rw [gl_w_len]; exact List.getElem?_eq_none_iff.mp hc), List.getElem?_eq_none (by rw [gl_w_len]; exact List.getElem?_eq_none_iff.mp hc)]
      | some c =>
        rw [gl_w_at hc, gl_w_at hc, gl_e_upd (c := c) (M := M) (M' := M1)]
        intro k' i' hi
        exact g2 j' c k' i' hc hjj hi
  exact e ▸ hP1
end GLR
end
section
/-! ===== where the numbers stand: a house's 378 numbers, as the model's row has them ===== -/
def iC (c w : Nat) : Nat := 28 + 6 * c + w
def iK (k w : Nat) : Nat := 58 + 8 * k + w
/-- whose cell, which place: of a house's numbers -/
def owH (i : Nat) : Nat × Nat := if i = 0 then (0, 0) else if i = 1 then (2, 0) else if i = 2 then (9, 0) else if i = 3 then (2, 1) else if i < 28 then (1, i - 4) else if i < 58 then (3 + (i - 28) % 6, (i - 28) / 6) else (10 + (i - 58) % 8, (i - 58) / 8)

def LH : List gl_Ce := [.inr (.inl (3, [.inl 0, .inr 1, .inr 2, .inr 9])),
  .inl (24, fun h => (4 + h)),
  .inr (.inl (1, [.inl 1, .inl 3, .inr 3, .inr 4, .inr 5, .inr 6, .inr 7, .inr 8])),
  .inl (5, fun c => iC c 0),
  .inl (5, fun c => iC c 1),
  .inl (5, fun c => iC c 2),
  .inl (5, fun c => iC c 3),
  .inl (5, fun c => iC c 4),
  .inl (5, fun c => iC c 5),
  .inr (.inl (0, [.inl 2, .inr 10, .inr 11, .inr 12, .inr 13, .inr 14, .inr 15, .inr 16, .inr 17])),
  .inl (40, fun k => iK k 0),
  .inl (40, fun k => iK k 1),
  .inl (40, fun k => iK k 2),
  .inl (40, fun k => iK k 3),
  .inl (40, fun k => iK k 4),
  .inl (40, fun k => iK k 5),
  .inl (40, fun k => iK k 6),
  .inl (40, fun k => iK k 7)]
theorem ok_LH : gl_ok LH := gl_ok_of (ow := owH) (by decide +kernel)
/-- two houses -/
def L2 : List gl_Ce := [.inr (.inl (3, [.inl 0, .inr 1, .inr 2, .inr 9])),
  .inl (24, fun h => (4 + h)),
  .inr (.inl (1, [.inl 1, .inl 3, .inr 3, .inr 4, .inr 5, .inr 6, .inr 7, .inr 8])),
  .inl (5, fun c => iC c 0),
  .inl (5, fun c => iC c 1),
  .inl (5, fun c => iC c 2),
  .inl (5, fun c => iC c 3),
  .inl (5, fun c => iC c 4),
  .inl (5, fun c => iC c 5),
  .inr (.inl (0, [.inl 2, .inr 10, .inr 11, .inr 12, .inr 13, .inr 14, .inr 15, .inr 16, .inr 17])),
  .inl (40, fun k => iK k 0),
  .inl (40, fun k => iK k 1),
  .inl (40, fun k => iK k 2),
  .inl (40, fun k => iK k 3),
  .inl (40, fun k => iK k 4),
  .inl (40, fun k => iK k 5),
  .inl (40, fun k => iK k 6),
  .inl (40, fun k => iK k 7),
  .inr (.inl (3, [.inl 378, .inr 19, .inr 20, .inr 27])),
  .inl (24, fun h => 378 + (4 + h)),
  .inr (.inl (1, [.inl 379, .inl 381, .inr 21, .inr 22, .inr 23, .inr 24, .inr 25, .inr 26])),
  .inl (5, fun c => 378 + iC c 0),
  .inl (5, fun c => 378 + iC c 1),
  .inl (5, fun c => 378 + iC c 2),
  .inl (5, fun c => 378 + iC c 3),
  .inl (5, fun c => 378 + iC c 4),
  .inl (5, fun c => 378 + iC c 5),
  .inr (.inl (0, [.inl 380, .inr 28, .inr 29, .inr 30, .inr 31, .inr 32, .inr 33, .inr 34, .inr 35])),
  .inl (40, fun k => 378 + iK k 0),
  .inl (40, fun k => 378 + iK k 1),
  .inl (40, fun k => 378 + iK k 2),
  .inl (40, fun k => 378 + iK k 3),
  .inl (40, fun k => 378 + iK k 4),
  .inl (40, fun k => 378 + iK k 5),
  .inl (40, fun k => 378 + iK k 6),
  .inl (40, fun k => 378 + iK k 7)]
theorem ok_L2 : gl_ok L2 := gl_ok_of (ow := fun i => if i < 378 then owH i else ((owH (i - 378)).1 + 18, (owH (i - 378)).2)) (by decide +kernel)
/-- a GoalLifts: the house, the forecast, the five states of the history; itself, its history, the row of states -/
def LC : List gl_Ce := [.inr (.inl (3, [.inl 0, .inr 1, .inr 2, .inr 9])),
  .inl (24, fun h => (4 + h)),
  .inr (.inl (1, [.inl 1, .inl 3, .inr 3, .inr 4, .inr 5, .inr 6, .inr 7, .inr 8])),
  .inl (5, fun c => iC c 0),
  .inl (5, fun c => iC c 1),
  .inl (5, fun c => iC c 2),
  .inl (5, fun c => iC c 3),
  .inl (5, fun c => iC c 4),
  .inl (5, fun c => iC c 5),
  .inr (.inl (0, [.inl 2, .inr 10, .inr 11, .inr 12, .inr 13, .inr 14, .inr 15, .inr 16, .inr 17])),
  .inl (40, fun k => iK k 0),
  .inl (40, fun k => iK k 1),
  .inl (40, fun k => iK k 2),
  .inl (40, fun k => iK k 3),
  .inl (40, fun k => iK k 4),
  .inl (40, fun k => iK k 5),
  .inl (40, fun k => iK k 6),
  .inl (40, fun k => iK k 7),
  .inr (.inl (3, [.inl 378, .inr 19, .inr 20, .inr 27])),
  .inl (24, fun h => 378 + (4 + h)),
  .inr (.inl (1, [.inl 379, .inl 381, .inr 21, .inr 22, .inr 23, .inr 24, .inr 25, .inr 26])),
  .inl (5, fun c => 378 + iC c 0),
  .inl (5, fun c => 378 + iC c 1),
  .inl (5, fun c => 378 + iC c 2),
  .inl (5, fun c => 378 + iC c 3),
  .inl (5, fun c => 378 + iC c 4),
  .inl (5, fun c => 378 + iC c 5),
  .inr (.inl (0, [.inl 380, .inr 28, .inr 29, .inr 30, .inr 31, .inr 32, .inr 33, .inr 34, .inr 35])),
  .inl (40, fun k => 378 + iK k 0),
  .inl (40, fun k => 378 + iK k 1),
  .inl (40, fun k => 378 + iK k 2),
  .inl (40, fun k => 378 + iK k 3),
  .inl (40, fun k => 378 + iK k 4),
  .inl (40, fun k => 378 + iK k 5),
  .inl (40, fun k => 378 + iK k 6),
  .inl (40, fun k => 378 + iK k 7),
  .inr (.inl (3, [.inl 756, .inr 37, .inr 38, .inr 45])),
  .inl (24, fun h => 756 + (4 + h)),
  .inr (.inl (1, [.inl 757, .inl 759, .inr 39, .inr 40, .inr 41, .inr 42, .inr 43, .inr 44])),
  .inl (5, fun c => 756 + iC c 0),
  .inl (5, fun c => 756 + iC c 1),
  .inl (5, fun c => 756 + iC c 2),
  .inl (5, fun c => 756 + iC c 3),
  .inl (5, fun c => 756 + iC c 4),
  .inl (5, fun c => 756 + iC c 5),
  .inr (.inl (0, [.inl 758, .inr 46, .inr 47, .inr 48, .inr 49, .inr 50, .inr 51, .inr 52, .inr 53])),
  .inl (40, fun k => 756 + iK k 0),
  .inl (40, fun k => 756 + iK k 1),
  .inl (40, fun k => 756 + iK k 2),
  .inl (40, fun k => 756 + iK k 3),
  .inl (40, fun k => 756 + iK k 4),
  .inl (40, fun k => 756 + iK k 5),
  .inl (40, fun k => 756 + iK k 6),
  .inl (40, fun k => 756 + iK k 7),
  .inr (.inl (3, [.inl 1134, .inr 55, .inr 56, .inr 63])),
  .inl (24, fun h => 1134 + (4 + h)),
  .inr (.inl (1, [.inl 1135, .inl 1137, .inr 57, .inr 58, .inr 59, .inr 60, .inr 61, .inr 62])),
  .inl (5, fun c => 1134 + iC c 0),
  .inl (5, fun c => 1134 + iC c 1),
  .inl (5, fun c => 1134 + iC c 2),
  .inl (5, fun c => 1134 + iC c 3),
  .inl (5, fun c => 1134 + iC c 4),
  .inl (5, fun c => 1134 + iC c 5),
  .inr (.inl (0, [.inl 1136, .inr 64, .inr 65, .inr 66, .inr 67, .inr 68, .inr 69, .inr 70, .inr 71])),
  .inl (40, fun k => 1134 + iK k 0),
  .inl (40, fun k => 1134 + iK k 1),
  .inl (40, fun k => 1134 + iK k 2),
  .inl (40, fun k => 1134 + iK k 3),
  .inl (40, fun k => 1134 + iK k 4),
  .inl (40, fun k => 1134 + iK k 5),
  .inl (40, fun k => 1134 + iK k 6),
  .inl (40, fun k => 1134 + iK k 7),
  .inr (.inl (3, [.inl 1512, .inr 73, .inr 74, .inr 81])),
  .inl (24, fun h => 1512 + (4 + h)),
  .inr (.inl (1, [.inl 1513, .inl 1515, .inr 75, .inr 76, .inr 77, .inr 78, .inr 79, .inr 80])),
  .inl (5, fun c => 1512 + iC c 0),
  .inl (5, fun c => 1512 + iC c 1),
  .inl (5, fun c => 1512 + iC c 2),
  .inl (5, fun c => 1512 + iC c 3),
  .inl (5, fun c => 1512 + iC c 4),
  .inl (5, fun c => 1512 + iC c 5),
  .inr (.inl (0, [.inl 1514, .inr 82, .inr 83, .inr 84, .inr 85, .inr 86, .inr 87, .inr 88, .inr 89])),
  .inl (40, fun k => 1512 + iK k 0),
  .inl (40, fun k => 1512 + iK k 1),
  .inl (40, fun k => 1512 + iK k 2),
  .inl (40, fun k => 1512 + iK k 3),
  .inl (40, fun k => 1512 + iK k 4),
  .inl (40, fun k => 1512 + iK k 5),
  .inl (40, fun k => 1512 + iK k 6),
  .inl (40, fun k => 1512 + iK k 7),
  .inr (.inl (3, [.inl 1890, .inr 91, .inr 92, .inr 99])),
  .inl (24, fun h => 1890 + (4 + h)),
  .inr (.inl (1, [.inl 1891, .inl 1893, .inr 93, .inr 94, .inr 95, .inr 96, .inr 97, .inr 98])),
  .inl (5, fun c => 1890 + iC c 0),
  .inl (5, fun c => 1890 + iC c 1),
  .inl (5, fun c => 1890 + iC c 2),
  .inl (5, fun c => 1890 + iC c 3),
  .inl (5, fun c => 1890 + iC c 4),
  .inl (5, fun c => 1890 + iC c 5),
  .inr (.inl (0, [.inl 1892, .inr 100, .inr 101, .inr 102, .inr 103, .inr 104, .inr 105, .inr 106, .inr 107])),
  .inl (40, fun k => 1890 + iK k 0),
  .inl (40, fun k => 1890 + iK k 1),
  .inl (40, fun k => 1890 + iK k 2),
  .inl (40, fun k => 1890 + iK k 3),
  .inl (40, fun k => 1890 + iK k 4),
  .inl (40, fun k => 1890 + iK k 5),
  .inl (40, fun k => 1890 + iK k 6),
  .inl (40, fun k => 1890 + iK k 7),
  .inr (.inl (3, [.inl 2268, .inr 109, .inr 110, .inr 117])),
  .inl (24, fun h => 2268 + (4 + h)),
  .inr (.inl (1, [.inl 2269, .inl 2271, .inr 111, .inr 112, .inr 113, .inr 114, .inr 115, .inr 116])),
  .inl (5, fun c => 2268 + iC c 0),
  .inl (5, fun c => 2268 + iC c 1),
  .inl (5, fun c => 2268 + iC c 2),
  .inl (5, fun c => 2268 + iC c 3),
  .inl (5, fun c => 2268 + iC c 4),
  .inl (5, fun c => 2268 + iC c 5),
  .inr (.inl (0, [.inl 2270, .inr 118, .inr 119, .inr 120, .inr 121, .inr 122, .inr 123, .inr 124, .inr 125])),
  .inl (40, fun k => 2268 + iK k 0),
  .inl (40, fun k => 2268 + iK k 1),
  .inl (40, fun k => 2268 + iK k 2),
  .inl (40, fun k => 2268 + iK k 3),
  .inl (40, fun k => 2268 + iK k 4),
  .inl (40, fun k => 2268 + iK k 5),
  .inl (40, fun k => 2268 + iK k 6),
  .inl (40, fun k => 2268 + iK k 7),
  .inr (.inl (4, [.inr 0, .inr 18, .inr 127])),
  .inr (.inl (2, [.inl 2646, .inl 2647, .inr 128])),
  .inr (.inr (5, fun k => 36 + 18 * k))]
theorem ok_LC : gl_ok LC := gl_ok_of (ow := fun i => if i < 2646 then ((owH (i % 378)).1 + 18 * (i / 378), (owH (i % 378)).2) else (127, i - 2646)) (by decide +kernel)
/-- the model -/
def LM : List gl_Ce := [.inr (.inl (5, [.inr 1, .inr 2, .inr 3, .inr 4, .inl 378])),
  .inl (378, fun i => i),
  .inl (1890, fun i => 1200 + i),
  .inl (378, fun i => 400 + i),
  .inl (378, fun i => 800 + i)]
theorem ok_LM : gl_ok LM := gl_ok_of (ow := fun i => if i < 378 then (1, i) else if i = 378 then (0, 4) else if i < 800 then (3, i - 400) else if i < 1200 then (4, i - 800) else (2, i - 1200)) (by decide +kernel)
abbrev rmX4_addCar : Room := { frames := 4, cells := 0, slots := 0, locals := 94 }
theorem hdX4_addCar : gl_hd yX4_addCar RX4 3 := ⟨rfl, by decide +kernel, by decide +kernel, by decide +kernel⟩
abbrev rmX4_setAwake : Room := { frames := 4, cells := 0, slots := 0, locals := 94 }
theorem hdX4_setAwake : gl_hd yX4_setAwake RX4 2 := ⟨rfl, by decide +kernel, by decide +kernel, by decide +kernel⟩
abbrev rmX4_hold : Room := { frames := 4, cells := 0, slots := 0, locals := 94 }
theorem hdX4_hold : gl_hd yX4_hold RX4 2 := ⟨rfl, by decide +kernel, by decide +kernel, by decide +kernel⟩
abbrev rmX4_fail : Room := { frames := 4, cells := 0, slots := 0, locals := 94 }
theorem hdX4_fail : gl_hd yX4_fail RX4 1 := ⟨rfl, by decide +kernel, by decide +kernel, by decide +kernel⟩
abbrev rmX4_repair : Room := { frames := 4, cells := 0, slots := 0, locals := 94 }
theorem hdX4_repair : gl_hd yX4_repair RX4 1 := ⟨rfl, by decide +kernel, by decide +kernel, by decide +kernel⟩
abbrev rmX4_call : Room := { frames := 5, cells := 0, slots := 0, locals := 112 }
theorem hdX4_call : gl_hd yX4_call RX4 2 := ⟨rfl, by decide +kernel, by decide +kernel, by decide +kernel⟩
abbrev rmX4_pass : Room := { frames := 6, cells := 0, slots := 0, locals := 133 }
theorem hdX4_pass : gl_hd yX4_pass RX4 1 := ⟨rfl, by decide +kernel, by decide +kernel, by decide +kernel⟩
abbrev rmX4_undo : Room := { frames := 4, cells := 0, slots := 0, locals := 95 }
theorem hdX4_undo : gl_hd yX4_undo RX4 0 := ⟨rfl, by decide +kernel, by decide +kernel, by decide +kernel⟩
abbrev rmX4_count : Room := { frames := 4, cells := 0, slots := 0, locals := 87 }
theorem hdX4_count : gl_hd yX4_count RX4 1 := ⟨rfl, by decide +kernel, by decide +kernel, by decide +kernel⟩
abbrev rmX4_car : Room := { frames := 3, cells := 0, slots := 0, locals := 70 }
theorem hdX4_car : gl_hd yX4_car RX4 2 := ⟨rfl, by decide +kernel, by decide +kernel, by decide +kernel⟩
abbrev rmX4_caller : Room := { frames := 1, cells := 0, slots := 0, locals := 21 }
theorem hdX4_caller : gl_hd yX4_caller RX4 2 := ⟨rfl, by decide +kernel, by decide +kernel, by decide +kernel⟩
abbrev rmX4_group : Room := { frames := 4, cells := 0, slots := 0, locals := 88 }
theorem hdX4_group : gl_hd yX4_group RX4 2 := ⟨rfl, by decide +kernel, by decide +kernel, by decide +kernel⟩
abbrev rmX4_cost : Room := { frames := 4, cells := 0, slots := 0, locals := 86 }
theorem hdX4_cost : gl_hd yX4_cost RX4 3 := ⟨rfl, by decide +kernel, by decide +kernel, by decide +kernel⟩
abbrev rmX4_would : Room := { frames := 5, cells := 0, slots := 0, locals := 112 }
theorem hdX4_would : gl_hd yX4_would RX4 2 := ⟨rfl, by decide +kernel, by decide +kernel, by decide +kernel⟩
abbrev rmX4_thereIn : Room := { frames := 6, cells := 0, slots := 0, locals := 133 }
theorem hdX4_thereIn : gl_hd yX4_thereIn RX4 1 := ⟨rfl, by decide +kernel, by decide +kernel, by decide +kernel⟩
abbrev rmX4_waits : Room := { frames := 1, cells := 0, slots := 0, locals := 23 }
theorem hdX4_waits : gl_hd yX4_waits RX4 1 := ⟨rfl, by decide +kernel, by decide +kernel, by decide +kernel⟩
abbrev rmX4_worstCar : Room := { frames := 7, cells := 0, slots := 0, locals := 155 }
theorem hdX4_worstCar : gl_hd yX4_worstCar RX4 1 := ⟨rfl, by decide +kernel, by decide +kernel, by decide +kernel⟩
abbrev rmX4_isFloor : Room := { frames := 0, cells := 0, slots := 0, locals := 0 }
theorem hdX4_isFloor : gl_hd yX4_isFloor RX4 1 := ⟨rfl, by decide +kernel, by decide +kernel, by decide +kernel⟩
abbrev rmX4_isWay : Room := { frames := 1, cells := 0, slots := 0, locals := 20 }
theorem hdX4_isWay : gl_hd yX4_isWay RX4 2 := ⟨rfl, by decide +kernel, by decide +kernel, by decide +kernel⟩
abbrev rmX4_allThereInWithout : Room := { frames := 6, cells := 0, slots := 0, locals := 133 }
theorem hdX4_allThereInWithout : gl_hd yX4_allThereInWithout RX4 1 := ⟨rfl, by decide +kernel, by decide +kernel, by decide +kernel⟩
abbrev rmX5_in : Room := { frames := 0, cells := 0, slots := 0, locals := 0 }
theorem hdX5_in : gl_hd yX5_in RX5 3 := ⟨rfl, by decide +kernel, by decide +kernel, by decide +kernel⟩
abbrev rmX5_acts : Room := { frames := 0, cells := 0, slots := 0, locals := 0 }
theorem hdX5_acts : gl_hd yX5_acts RX5 0 := ⟨rfl, by decide +kernel, by decide +kernel, by decide +kernel⟩
abbrev rmX5_copies : Room := { frames := 0, cells := 0, slots := 0, locals := 0 }
theorem hdX5_copies : gl_hd yX5_copies RX5 2 := ⟨rfl, by decide +kernel, by decide +kernel, by decide +kernel⟩
abbrev rmX5_isCar : Room := { frames := 0, cells := 0, slots := 0, locals := 0 }
theorem hdX5_isCar : gl_hd yX5_isCar RX5 1 := ⟨rfl, by decide +kernel, by decide +kernel, by decide +kernel⟩
abbrev rmX5_isCaller : Room := { frames := 0, cells := 0, slots := 0, locals := 0 }
theorem hdX5_isCaller : gl_hd yX5_isCaller RX5 1 := ⟨rfl, by decide +kernel, by decide +kernel, by decide +kernel⟩
abbrev rmX5_isFloor : Room := { frames := 1, cells := 0, slots := 0, locals := 22 }
theorem hdX5_isFloor : gl_hd yX5_isFloor RX5 1 := ⟨rfl, by decide +kernel, by decide +kernel, by decide +kernel⟩
abbrev rmX5_ofCar : Room := { frames := 0, cells := 0, slots := 0, locals := 0 }
theorem hdX5_ofCar : gl_hd yX5_ofCar RX5 2 := ⟨rfl, by decide +kernel, by decide +kernel, by decide +kernel⟩
abbrev rmX5_putsCar : Room := { frames := 0, cells := 0, slots := 0, locals := 0 }
theorem hdX5_putsCar : gl_hd yX5_putsCar RX5 3 := ⟨rfl, by decide +kernel, by decide +kernel, by decide +kernel⟩
abbrev rmX5_ofCaller : Room := { frames := 0, cells := 0, slots := 0, locals := 0 }
theorem hdX5_ofCaller : gl_hd yX5_ofCaller RX5 2 := ⟨rfl, by decide +kernel, by decide +kernel, by decide +kernel⟩
abbrev rmX5_puts : Room := { frames := 0, cells := 0, slots := 0, locals := 0 }
theorem hdX5_puts : gl_hd yX5_puts RX5 3 := ⟨rfl, by decide +kernel, by decide +kernel, by decide +kernel⟩
abbrev rmX5_hour : Room := { frames := 0, cells := 0, slots := 0, locals := 0 }
theorem hdX5_hour : gl_hd yX5_hour RX5 0 := ⟨rfl, by decide +kernel, by decide +kernel, by decide +kernel⟩
abbrev rmX5_isAwake : Room := { frames := 1, cells := 0, slots := 0, locals := 20 }
theorem hdX5_isAwake : gl_hd yX5_isAwake RX5 1 := ⟨rfl, by decide +kernel, by decide +kernel, by decide +kernel⟩
abbrev rmX5_many : Room := { frames := 1, cells := 0, slots := 0, locals := 22 }
theorem hdX5_many : gl_hd yX5_many RX5 2 := ⟨rfl, by decide +kernel, by decide +kernel, by decide +kernel⟩
abbrev rmX5_inAll : Room := { frames := 1, cells := 0, slots := 0, locals := 22 }
theorem hdX5_inAll : gl_hd yX5_inAll RX5 1 := ⟨rfl, by decide +kernel, by decide +kernel, by decide +kernel⟩
abbrev rmX5_stops : Room := { frames := 1, cells := 0, slots := 0, locals := 22 }
theorem hdX5_stops : gl_hd yX5_stops RX5 1 := ⟨rfl, by decide +kernel, by decide +kernel, by decide +kernel⟩
abbrev rmX5_ones : Room := { frames := 0, cells := 0, slots := 0, locals := 0 }
theorem hdX5_ones : gl_hd yX5_ones RX5 1 := ⟨rfl, by decide +kernel, by decide +kernel, by decide +kernel⟩
abbrev rmX5_far : Room := { frames := 0, cells := 0, slots := 0, locals := 0 }
theorem hdX5_far : gl_hd yX5_far RX5 2 := ⟨rfl, by decide +kernel, by decide +kernel, by decide +kernel⟩
abbrev rmX5_canBeGiven : Room := { frames := 2, cells := 0, slots := 0, locals := 41 }
theorem hdX5_canBeGiven : gl_hd yX5_canBeGiven RX5 3 := ⟨rfl, by decide +kernel, by decide +kernel, by decide +kernel⟩
abbrev rmX5_costOf : Room := { frames := 2, cells := 0, slots := 0, locals := 46 }
theorem hdX5_costOf : gl_hd yX5_costOf RX5 3 := ⟨rfl, by decide +kernel, by decide +kernel, by decide +kernel⟩
abbrev rmX5_best : Room := { frames := 3, cells := 0, slots := 0, locals := 70 }
theorem hdX5_best : gl_hd yX5_best RX5 2 := ⟨rfl, by decide +kernel, by decide +kernel, by decide +kernel⟩
abbrev rmX5_gives : Room := { frames := 4, cells := 0, slots := 0, locals := 97 }
theorem hdX5_gives : gl_hd yX5_gives RX5 1 := ⟨rfl, by decide +kernel, by decide +kernel, by decide +kernel⟩
abbrev rmX5_aim : Room := { frames := 1, cells := 0, slots := 0, locals := 22 }
theorem hdX5_aim : gl_hd yX5_aim RX5 1 := ⟨rfl, by decide +kernel, by decide +kernel, by decide +kernel⟩
abbrev rmX5_isOut : Room := { frames := 1, cells := 0, slots := 0, locals := 22 }
theorem hdX5_isOut : gl_hd yX5_isOut RX5 2 := ⟨rfl, by decide +kernel, by decide +kernel, by decide +kernel⟩
abbrev rmX5_isTaken : Room := { frames := 1, cells := 0, slots := 0, locals := 22 }
theorem hdX5_isTaken : gl_hd yX5_isTaken RX5 2 := ⟨rfl, by decide +kernel, by decide +kernel, by decide +kernel⟩
abbrev rmX5_isStop : Room := { frames := 2, cells := 0, slots := 0, locals := 46 }
theorem hdX5_isStop : gl_hd yX5_isStop RX5 1 := ⟨rfl, by decide +kernel, by decide +kernel, by decide +kernel⟩
abbrev rmX5_stopsNow : Room := { frames := 2, cells := 0, slots := 0, locals := 46 }
theorem hdX5_stopsNow : gl_hd yX5_stopsNow RX5 1 := ⟨rfl, by decide +kernel, by decide +kernel, by decide +kernel⟩
abbrev rmX5_ticks : Room := { frames := 5, cells := 0, slots := 0, locals := 119 }
theorem hdX5_ticks : gl_hd yX5_ticks RX5 0 := ⟨rfl, by decide +kernel, by decide +kernel, by decide +kernel⟩
abbrev rmX5_fails : Room := { frames := 2, cells := 0, slots := 0, locals := 44 }
theorem hdX5_fails : gl_hd yX5_fails RX5 1 := ⟨rfl, by decide +kernel, by decide +kernel, by decide +kernel⟩
abbrev rmX5_addCar : Room := { frames := 1, cells := 0, slots := 0, locals := 23 }
theorem hdX5_addCar : gl_hd yX5_addCar RX5 3 := ⟨rfl, by decide +kernel, by decide +kernel, by decide +kernel⟩
abbrev rmX5_setAwake : Room := { frames := 1, cells := 0, slots := 0, locals := 22 }
theorem hdX5_setAwake : gl_hd yX5_setAwake RX5 2 := ⟨rfl, by decide +kernel, by decide +kernel, by decide +kernel⟩
abbrev rmX5_hold : Room := { frames := 2, cells := 0, slots := 0, locals := 46 }
theorem hdX5_hold : gl_hd yX5_hold RX5 2 := ⟨rfl, by decide +kernel, by decide +kernel, by decide +kernel⟩
abbrev rmX5_fail : Room := { frames := 3, cells := 0, slots := 0, locals := 67 }
theorem hdX5_fail : gl_hd yX5_fail RX5 1 := ⟨rfl, by decide +kernel, by decide +kernel, by decide +kernel⟩
abbrev rmX5_repair : Room := { frames := 1, cells := 0, slots := 0, locals := 23 }
theorem hdX5_repair : gl_hd yX5_repair RX5 1 := ⟨rfl, by decide +kernel, by decide +kernel, by decide +kernel⟩
abbrev rmX5_isWay : Room := { frames := 2, cells := 0, slots := 0, locals := 42 }
theorem hdX5_isWay : gl_hd yX5_isWay RX5 2 := ⟨rfl, by decide +kernel, by decide +kernel, by decide +kernel⟩
abbrev rmX5_call : Room := { frames := 5, cells := 0, slots := 0, locals := 119 }
theorem hdX5_call : gl_hd yX5_call RX5 2 := ⟨rfl, by decide +kernel, by decide +kernel, by decide +kernel⟩
abbrev rmX5_pass : Room := { frames := 6, cells := 0, slots := 0, locals := 141 }
theorem hdX5_pass : gl_hd yX5_pass RX5 1 := ⟨rfl, by decide +kernel, by decide +kernel, by decide +kernel⟩
abbrev rmX5_undo : Room := { frames := 0, cells := 0, slots := 0, locals := 0 }
theorem hdX5_undo : gl_hd yX5_undo RX5 0 := ⟨rfl, by decide +kernel, by decide +kernel, by decide +kernel⟩
abbrev rmX5_isOpen : Room := { frames := 1, cells := 0, slots := 0, locals := 22 }
theorem hdX5_isOpen : gl_hd yX5_isOpen RX5 1 := ⟨rfl, by decide +kernel, by decide +kernel, by decide +kernel⟩
abbrev rmX5_isFirst : Room := { frames := 2, cells := 0, slots := 0, locals := 44 }
theorem hdX5_isFirst : gl_hd yX5_isFirst RX5 1 := ⟨rfl, by decide +kernel, by decide +kernel, by decide +kernel⟩
abbrev rmX5_areOne : Room := { frames := 1, cells := 0, slots := 0, locals := 22 }
theorem hdX5_areOne : gl_hd yX5_areOne RX5 2 := ⟨rfl, by decide +kernel, by decide +kernel, by decide +kernel⟩
abbrev rmX5_groups : Room := { frames := 3, cells := 0, slots := 0, locals := 67 }
theorem hdX5_groups : gl_hd yX5_groups RX5 0 := ⟨rfl, by decide +kernel, by decide +kernel, by decide +kernel⟩
abbrev rmX5_sumOfCars : Room := { frames := 1, cells := 0, slots := 0, locals := 22 }
theorem hdX5_sumOfCars : gl_hd yX5_sumOfCars RX5 2 := ⟨rfl, by decide +kernel, by decide +kernel, by decide +kernel⟩
abbrev rmX5_count : Room := { frames := 4, cells := 0, slots := 0, locals := 89 }
theorem hdX5_count : gl_hd yX5_count RX5 1 := ⟨rfl, by decide +kernel, by decide +kernel, by decide +kernel⟩
abbrev rmX5_car : Room := { frames := 2, cells := 0, slots := 0, locals := 49 }
theorem hdX5_car : gl_hd yX5_car RX5 2 := ⟨rfl, by decide +kernel, by decide +kernel, by decide +kernel⟩
abbrev rmX5_caller : Room := { frames := 1, cells := 0, slots := 0, locals := 22 }
theorem hdX5_caller : gl_hd yX5_caller RX5 2 := ⟨rfl, by decide +kernel, by decide +kernel, by decide +kernel⟩
abbrev rmX5_group : Room := { frames := 3, cells := 0, slots := 0, locals := 67 }
theorem hdX5_group : gl_hd yX5_group RX5 2 := ⟨rfl, by decide +kernel, by decide +kernel, by decide +kernel⟩
abbrev rmX5_cost : Room := { frames := 3, cells := 0, slots := 0, locals := 70 }
theorem hdX5_cost : gl_hd yX5_cost RX5 3 := ⟨rfl, by decide +kernel, by decide +kernel, by decide +kernel⟩
abbrev rmX5_would : Room := { frames := 4, cells := 0, slots := 0, locals := 97 }
theorem hdX5_would : gl_hd yX5_would RX5 2 := ⟨rfl, by decide +kernel, by decide +kernel, by decide +kernel⟩
abbrev rmX5_thereIn : Room := { frames := 6, cells := 0, slots := 0, locals := 141 }
theorem hdX5_thereIn : gl_hd yX5_thereIn RX5 1 := ⟨rfl, by decide +kernel, by decide +kernel, by decide +kernel⟩
abbrev rmX5_waited : Room := { frames := 1, cells := 0, slots := 0, locals := 22 }
theorem hdX5_waited : gl_hd yX5_waited RX5 1 := ⟨rfl, by decide +kernel, by decide +kernel, by decide +kernel⟩
abbrev rmX5_waits : Room := { frames := 2, cells := 0, slots := 0, locals := 43 }
theorem hdX5_waits : gl_hd yX5_waits RX5 1 := ⟨rfl, by decide +kernel, by decide +kernel, by decide +kernel⟩
abbrev rmX5_allThere : Room := { frames := 6, cells := 0, slots := 0, locals := 141 }
theorem hdX5_allThere : gl_hd yX5_allThere RX5 0 := ⟨rfl, by decide +kernel, by decide +kernel, by decide +kernel⟩
abbrev rmX5_worstCar : Room := { frames := 7, cells := 0, slots := 0, locals := 162 }
theorem hdX5_worstCar : gl_hd yX5_worstCar RX5 1 := ⟨rfl, by decide +kernel, by decide +kernel, by decide +kernel⟩
abbrev rmX0_copyFrom : Room := { frames := 1, cells := 0, slots := 0, locals := 30 }
theorem hdX0_copyFrom : gl_hd yX0_copyFrom RX0 1 := ⟨rfl, by decide +kernel, by decide +kernel, by decide +kernel⟩
abbrev rmX0_has : Room := { frames := 0, cells := 0, slots := 0, locals := 0 }
theorem hdX0_has : gl_hd yX0_has RX0 1 := ⟨rfl, by decide +kernel, by decide +kernel, by decide +kernel⟩
abbrev rmX0_add : Room := { frames := 0, cells := 0, slots := 0, locals := 0 }
theorem hdX0_add : gl_hd yX0_add RX0 3 := ⟨rfl, by decide +kernel, by decide +kernel, by decide +kernel⟩
abbrev rmX0_give : Room := { frames := 1, cells := 0, slots := 0, locals := 21 }
theorem hdX0_give : gl_hd yX0_give RX0 2 := ⟨rfl, by decide +kernel, by decide +kernel, by decide +kernel⟩
abbrev rmX0_rides : Room := { frames := 0, cells := 0, slots := 0, locals := 0 }
theorem hdX0_rides : gl_hd yX0_rides RX0 2 := ⟨rfl, by decide +kernel, by decide +kernel, by decide +kernel⟩
abbrev rmX0_waitsFor : Room := { frames := 0, cells := 0, slots := 0, locals := 0 }
theorem hdX0_waitsFor : gl_hd yX0_waitsFor RX0 2 := ⟨rfl, by decide +kernel, by decide +kernel, by decide +kernel⟩
abbrev rmX0_numberIn : Room := { frames := 0, cells := 0, slots := 0, locals := 0 }
theorem hdX0_numberIn : gl_hd yX0_numberIn RX0 1 := ⟨rfl, by decide +kernel, by decide +kernel, by decide +kernel⟩
abbrev rmX0_numberOf : Room := { frames := 0, cells := 0, slots := 0, locals := 0 }
theorem hdX0_numberOf : gl_hd yX0_numberOf RX0 2 := ⟨rfl, by decide +kernel, by decide +kernel, by decide +kernel⟩
abbrev rmX0_numberWith : Room := { frames := 1, cells := 0, slots := 0, locals := 24 }
theorem hdX0_numberWith : gl_hd yX0_numberWith RX0 1 := ⟨rfl, by decide +kernel, by decide +kernel, by decide +kernel⟩
abbrev rmX0_stopsOf : Room := { frames := 1, cells := 0, slots := 0, locals := 22 }
theorem hdX0_stopsOf : gl_hd yX0_stopsOf RX0 1 := ⟨rfl, by decide +kernel, by decide +kernel, by decide +kernel⟩
abbrev rmX0_aimOf : Room := { frames := 2, cells := 0, slots := 0, locals := 45 }
theorem hdX0_aimOf : gl_hd yX0_aimOf RX0 2 := ⟨rfl, by decide +kernel, by decide +kernel, by decide +kernel⟩
abbrev rmX0_isNearer : Room := { frames := 1, cells := 0, slots := 0, locals := 21 }
theorem hdX0_isNearer : gl_hd yX0_isNearer RX0 3 := ⟨rfl, by decide +kernel, by decide +kernel, by decide +kernel⟩
abbrev rmX0_letOut : Room := { frames := 1, cells := 0, slots := 0, locals := 22 }
theorem hdX0_letOut : gl_hd yX0_letOut RX0 3 := ⟨rfl, by decide +kernel, by decide +kernel, by decide +kernel⟩
abbrev rmX0_takeIn : Room := { frames := 1, cells := 0, slots := 0, locals := 24 }
theorem hdX0_takeIn : gl_hd yX0_takeIn RX0 4 := ⟨rfl, by decide +kernel, by decide +kernel, by decide +kernel⟩
abbrev rmX0_loseCar : Room := { frames := 1, cells := 0, slots := 0, locals := 22 }
theorem hdX0_loseCar : gl_hd yX0_loseCar RX0 3 := ⟨rfl, by decide +kernel, by decide +kernel, by decide +kernel⟩
abbrev rmX0_waitOf : Room := { frames := 0, cells := 0, slots := 0, locals := 0 }
theorem hdX0_waitOf : gl_hd yX0_waitOf RX0 2 := ⟨rfl, by decide +kernel, by decide +kernel, by decide +kernel⟩
abbrev rmX0_isInGroup : Room := { frames := 0, cells := 0, slots := 0, locals := 0 }
theorem hdX0_isInGroup : gl_hd yX0_isInGroup RX0 1 := ⟨rfl, by decide +kernel, by decide +kernel, by decide +kernel⟩
abbrev rmX0_sameGroup : Room := { frames := 1, cells := 0, slots := 0, locals := 21 }
theorem hdX0_sameGroup : gl_hd yX0_sameGroup RX0 2 := ⟨rfl, by decide +kernel, by decide +kernel, by decide +kernel⟩
abbrev rmX0_isFirstOfGroup : Room := { frames := 2, cells := 0, slots := 0, locals := 43 }
theorem hdX0_isFirstOfGroup : gl_hd yX0_isFirstOfGroup RX0 1 := ⟨rfl, by decide +kernel, by decide +kernel, by decide +kernel⟩
abbrev rmX0_numberOfGroups : Room := { frames := 3, cells := 0, slots := 0, locals := 65 }
theorem hdX0_numberOfGroups : gl_hd yX0_numberOfGroups RX0 0 := ⟨rfl, by decide +kernel, by decide +kernel, by decide +kernel⟩
abbrev rmX0_firstOfGroup : Room := { frames := 3, cells := 0, slots := 0, locals := 65 }
theorem hdX0_firstOfGroup : gl_hd yX0_firstOfGroup RX0 1 := ⟨rfl, by decide +kernel, by decide +kernel, by decide +kernel⟩
abbrev rmX0_sizeOfGroup : Room := { frames := 2, cells := 0, slots := 0, locals := 43 }
theorem hdX0_sizeOfGroup : gl_hd yX0_sizeOfGroup RX0 1 := ⟨rfl, by decide +kernel, by decide +kernel, by decide +kernel⟩
abbrev rmX1_copyFrom : Room := { frames := 1, cells := 0, slots := 0, locals := 30 }
theorem hdX1_copyFrom : gl_hd yX1_copyFrom RX1 1 := ⟨rfl, by decide +kernel, by decide +kernel, by decide +kernel⟩
abbrev rmX1_has : Room := { frames := 0, cells := 0, slots := 0, locals := 0 }
theorem hdX1_has : gl_hd yX1_has RX1 1 := ⟨rfl, by decide +kernel, by decide +kernel, by decide +kernel⟩
abbrev rmX1_add : Room := { frames := 0, cells := 0, slots := 0, locals := 0 }
theorem hdX1_add : gl_hd yX1_add RX1 3 := ⟨rfl, by decide +kernel, by decide +kernel, by decide +kernel⟩
abbrev rmX1_serves : Room := { frames := 0, cells := 0, slots := 0, locals := 0 }
theorem hdX1_serves : gl_hd yX1_serves RX1 2 := ⟨rfl, by decide +kernel, by decide +kernel, by decide +kernel⟩
abbrev rmX1_travelTowards : Room := { frames := 0, cells := 0, slots := 0, locals := 0 }
theorem hdX1_travelTowards : gl_hd yX1_travelTowards RX1 2 := ⟨rfl, by decide +kernel, by decide +kernel, by decide +kernel⟩
abbrev rmX1_numberIn : Room := { frames := 0, cells := 0, slots := 0, locals := 0 }
theorem hdX1_numberIn : gl_hd yX1_numberIn RX1 1 := ⟨rfl, by decide +kernel, by decide +kernel, by decide +kernel⟩
abbrev rmX1_travelledByAll : Room := { frames := 0, cells := 0, slots := 0, locals := 0 }
theorem hdX1_travelledByAll : gl_hd yX1_travelledByAll RX1 0 := ⟨rfl, by decide +kernel, by decide +kernel, by decide +kernel⟩
abbrev rmX2_keep : Room := { frames := 3, cells := 0, slots := 0, locals := 72 }
theorem hdX2_keep : gl_hd yX2_keep RX2 1 := ⟨rfl, by decide +kernel, by decide +kernel, by decide +kernel⟩
abbrev rmX2_restore : Room := { frames := 3, cells := 0, slots := 0, locals := 72 }
theorem hdX2_restore : gl_hd yX2_restore RX2 1 := ⟨rfl, by decide +kernel, by decide +kernel, by decide +kernel⟩
abbrev rmX3_copyFrom : Room := { frames := 2, cells := 0, slots := 0, locals := 51 }
theorem hdX3_copyFrom : gl_hd yX3_copyFrom RX3 1 := ⟨rfl, by decide +kernel, by decide +kernel, by decide +kernel⟩
abbrev rmX3_hour : Room := { frames := 1, cells := 0, slots := 0, locals := 22 }
theorem hdX3_hour : gl_hd yX3_hour RX3 0 := ⟨rfl, by decide +kernel, by decide +kernel, by decide +kernel⟩
abbrev rmX3_isAwake : Room := { frames := 2, cells := 0, slots := 0, locals := 42 }
theorem hdX3_isAwake : gl_hd yX3_isAwake RX3 1 := ⟨rfl, by decide +kernel, by decide +kernel, by decide +kernel⟩
abbrev rmX3_canBeGiven : Room := { frames := 3, cells := 0, slots := 0, locals := 63 }
theorem hdX3_canBeGiven : gl_hd yX3_canBeGiven RX3 3 := ⟨rfl, by decide +kernel, by decide +kernel, by decide +kernel⟩
abbrev rmX3_costOf : Room := { frames := 2, cells := 0, slots := 0, locals := 45 }
theorem hdX3_costOf : gl_hd yX3_costOf RX3 3 := ⟨rfl, by decide +kernel, by decide +kernel, by decide +kernel⟩
abbrev rmX3_bestCar : Room := { frames := 4, cells := 0, slots := 0, locals := 86 }
theorem hdX3_bestCar : gl_hd yX3_bestCar RX3 2 := ⟨rfl, by decide +kernel, by decide +kernel, by decide +kernel⟩
abbrev rmX3_oneTick : Room := { frames := 5, cells := 0, slots := 0, locals := 112 }
theorem hdX3_oneTick : gl_hd yX3_oneTick RX3 0 := ⟨rfl, by decide +kernel, by decide +kernel, by decide +kernel⟩
abbrev rmX3_stopOrTravel : Room := { frames := 3, cells := 0, slots := 0, locals := 70 }
theorem hdX3_stopOrTravel : gl_hd yX3_stopOrTravel RX3 1 := ⟨rfl, by decide +kernel, by decide +kernel, by decide +kernel⟩
abbrev rmX3_breakCar : Room := { frames := 2, cells := 0, slots := 0, locals := 47 }
theorem hdX3_breakCar : gl_hd yX3_breakCar RX3 1 := ⟨rfl, by decide +kernel, by decide +kernel, by decide +kernel⟩
abbrev rmJ6_bitCount_0f7a4 : Room := { frames := 0, cells := 0, slots := 0, locals := 0 }
theorem hdJ6_bitCount_0f7a4 : gl_hd yJ6_bitCount_0f7a4 RJ6 1 := ⟨rfl, by decide +kernel, by decide +kernel, by decide +kernel⟩
abbrev rmJ9_floorMod_7cf53 : Room := { frames := 0, cells := 0, slots := 0, locals := 0 }
theorem hdJ9_floorMod_7cf53 : gl_hd yJ9_floorMod_7cf53 RJ9 2 := ⟨rfl, by decide +kernel, by decide +kernel, by decide +kernel⟩
end
section
/-! ===== what the numbers say: functions of the memory, the same for the class and for the model ===== -/
theorem gl_bz {P : Prop} [Decidable P] : ((if P then nI 1 else nI 0) = (0 : Int32)) ↔ ¬ P := by
  by_cases h : P
  · simp [h]; decide
  · simp [h]; decide
theorem gl_bn {P : Prop} [Decidable P] : (¬ (if P then nI 1 else nI 0) = (0 : Int32)) ↔ P := by
  rw [gl_bz]; exact Classical.not_not
abbrev sp_has (x n : Int32) : Prop := ¬ x < 0 ∧ ¬ n ≤ x
abbrev sp_rd (M : Nat → Int32) (k : Nat) (c : Int32) : Prop := M (iK k 2) = nI 2 ∧ M (iK k 3) = c
abbrev sp_wt (M : Nat → Int32) (k : Nat) (c : Int32) : Prop := M (iK k 2) = nI 1 ∧ M (iK k 3) = c
/-- callers in a phase, callers of a car in a phase, among the first k -/
def sp_in (M : Nat → Int32) (is : Int32) : Nat → Int32
  | 0 => nI 0
  | k + 1 => if M (iK k 2) = is then sp_in M is k + nI 1 else sp_in M is k
def sp_of (M : Nat → Int32) (c is : Int32) : Nat → Int32
  | 0 => nI 0
  | k + 1 => if M (iK k 2) = is ∧ M (iK k 3) = c then sp_of M c is k + nI 1 else sp_of M c is k
abbrev sp_with (M : Nat → Int32) (c : Int32) (n : Nat) : Int32 := sp_of M c (nI 1) n + sp_of M c (nI 2) n
/-- the stops of a car, as bits -/
def sp_stops (M : Nat → Int32) (c : Int32) : Nat → Int32
  | 0 => nI 0
  | k + 1 => if sp_wt M k c then sp_stops M c k ||| (nI 1 <<< (M (iK k 0) &&& 31) ||| nI 1 <<< (M (iK k 1) &&& 31)) else if sp_rd M k c then sp_stops M c k ||| nI 1 <<< (M (iK k 1) &&& 31) else sp_stops M c k
def sp_ones (set : Int32) : Nat → Int32
  | 0 => nI 0
  | k + 1 => sp_ones set k + (set >>> (nI k &&& 31) &&& nI 1)
def sp_pop (set : Int32) : Int32 := sp_ones set 16
abbrev sp_hr (t : Nat) : Nat := t / 60 % 24
abbrev sp_awake (M : Nat → Int32) (t c : Nat) : Prop := ¬ M (4 + sp_hr t) ≤ nI c
abbrev sp_serves (M : Nat → Int32) (c : Nat) (f : Int32) : Prop := ¬ f < M (iC c 0) ∧ ¬ M (iC c 1) < f
def sp_far (a b : Int32) : Int32 := if a < b then b - a else a - b
abbrev sp_near (a b fl : Int32) : Prop := sp_far a fl < sp_far b fl ∨ (sp_far a fl = sp_far b fl ∧ a < b)
abbrev sp_can (M : Nat → Int32) (t c : Nat) (f g : Int32) : Prop := M (iC c 4) = 0 ∧ sp_awake M t c ∧ sp_serves M c f ∧ sp_serves M c g
def sp_bits (M : Nat → Int32) (c : Int32) (f g : Int32) (n : Nat) : Int32 := sp_stops M c n ||| nI 1 <<< (f &&& 31) ||| nI 1 <<< (g &&& 31)
def sp_cost (M : Nat → Int32) (c : Nat) (f g : Int32) (n : Nat) : Int32 := sp_far (M (iC c 3)) f + nI 2 * sp_pop (sp_bits M (nI c) f g n) + sp_with M (nI c) n
/-- the best among the first c cars, and its cost -/
def sp_best (M : Nat → Int32) (t : Nat) (f g : Int32) (n : Nat) : Nat → Int32 × Int32
  | 0 => (-9, nI 0)
  | c + 1 => if sp_can M t c f g ∧ ((sp_best M t f g n c).1 = -9 ∨ ¬ (sp_best M t f g n c).2 ≤ sp_cost M c f g n) then (nI c, sp_cost M c f g n) else sp_best M t f g n c
/-- the aim: the nearest goal of those who ride, the floor of the first who waits -/
def sp_aims (M : Nat → Int32) (c fl : Int32) : Nat → Int32 × Int32
  | 0 => (-9, -9)
  | k + 1 => if sp_rd M k c then (if (sp_aims M c fl k).1 = -9 ∨ sp_near (M (iK k 1)) (sp_aims M c fl k).1 fl then M (iK k 1) else (sp_aims M c fl k).1, (sp_aims M c fl k).2) else if (sp_aims M c fl k).2 = -9 ∧ sp_wt M k c then ((sp_aims M c fl k).1, M (iK k 0)) else sp_aims M c fl k
def sp_aim (M : Nat → Int32) (c fl : Int32) (n : Nat) : Int32 := if (sp_aims M c fl n).1 = -9 then (sp_aims M c fl n).2 else (sp_aims M c fl n).1
def sp_wait (M : Nat → Int32) (k : Nat) (t : Int32) : Int32 := (if M (iK k 2) = nI 2 ∨ M (iK k 2) = nI 3 then M (iK k 5) else t) - M (iK k 4)
abbrev sp_open (M : Nat → Int32) (k : Nat) : Prop := M (iK k 2) = 0 ∨ M (iK k 2) = nI 1
abbrev sp_same (M : Nat → Int32) (j k : Nat) : Prop := sp_open M j ∧ sp_open M k ∧ M (iK j 0) = M (iK k 0) ∧ M (iK j 1) = M (iK k 1)
/-- no earlier one of the first j is in k's group -/
def sp_none (M : Nat → Int32) (k : Nat) : Nat → Bool
  | 0 => true
  | j + 1 => sp_none M k j && !decide (sp_same M j k)
abbrev sp_first (M : Nat → Int32) (k : Nat) : Prop := sp_none M k k = true ∧ sp_open M k
def sp_groups (M : Nat → Int32) : Nat → Nat
  | 0 => 0
  | k + 1 => if sp_first M k then sp_groups M k + 1 else sp_groups M k
/-- the first caller of a group, among the first k -/
def sp_fog (M : Nat → Int32) (i : Int32) : Nat → Int32
  | 0 => -9
  | k + 1 => if sp_first M k ∧ nI (sp_groups M k) = i then nI k else sp_fog M i k
def sp_size (M : Nat → Int32) (f : Nat) : Nat → Int32
  | 0 => nI 0
  | k + 1 => if sp_same M f k then sp_size M f k + nI 1 else sp_size M f k
def sp_cst (M : Nat → Int32) (v : Int32) : Nat → Int32
  | 0 => nI 0
  | c + 1 => if M (iC c 4) = v then sp_cst M v c + nI 1 else sp_cst M v c
def sp_went (M : Nat → Int32) : Nat → Int32
  | 0 => nI 0
  | c + 1 => sp_went M c + M (iC c 5)
abbrev sp_fl (x : Int32) : Prop := ∃ f, f < 16 ∧ x = nI f
/-- a state that calls can reach: n callers, m cars, tick t -/
def sp_W (n m t : Nat) (M : Nat → Int32) : Prop := n ≤ 40 ∧ m ≤ 5 ∧ M 2 = nI n ∧ M 1 = nI m ∧ M 0 = nI t ∧ (∀ c, c < m → sp_fl (M (iC c 0)) ∧ sp_fl (M (iC c 1)) ∧ sp_fl (M (iC c 3))) ∧ (∀ k, k < n → sp_fl (M (iK k 0)) ∧ sp_fl (M (iK k 1)) ∧ (∃ i, i ≤ 3 ∧ M (iK k 2) = nI i) ∧ (M (iK k 2) ≠ nI 3 → M (iK k 6) = -9))
theorem nI_0' : nI 0 = 0 := by decide +kernel
/-- the shifts of floors stay among sixteen bits -/
def sp_b16 (x : Int32) : Prop := ∃ s, s < 65536 ∧ x = nI s
theorem nx_or (a b : Nat) : nI a ||| nI b = nI (a ||| b) := by
  apply Int32.toBitVec_inj.1
  show BitVec.ofNat 32 a ||| BitVec.ofNat 32 b = BitVec.ofNat 32 (a ||| b)
  exact BitVec.ofNat_or.symm
theorem sp_b16_or {x y : Int32} (hx : sp_b16 x) (hy : sp_b16 y) : sp_b16 (x ||| y) := by
  obtain ⟨a, ha, rfl⟩ := hx
  obtain ⟨b, hb, rfl⟩ := hy
  exact ⟨a ||| b, Nat.or_lt_two_pow (n := 16) ha hb, nx_or a b⟩
theorem sp_b16_sh0 : ∀ f, f < 16 → nI 1 <<< (nI f &&& 31) = nI (2 ^ f) := by decide +kernel
theorem sp_b16_sh {x : Int32} (h : sp_fl x) : sp_b16 (nI 1 <<< (x &&& 31)) := by
  obtain ⟨f, hf, rfl⟩ := h
  exact ⟨2 ^ f, Nat.pow_lt_pow_right (by decide) hf, sp_b16_sh0 f hf⟩
theorem sp_b16_0 : sp_b16 (nI 0) := ⟨0, by decide, rfl⟩
theorem sp_b16_stops {M : Nat → Int32} {c : Int32} (n : Nat) (h : ∀ k, k < n → sp_fl (M (iK k 0)) ∧ sp_fl (M (iK k 1))) : sp_b16 (sp_stops M c n) := by
  induction n with
  | zero => exact sp_b16_0
  | succ n ih =>
    have h1 := ih (fun k hk => h k (by omega))
    have h2 := h n (by omega)
    simp only [sp_stops]
    split
    · exact sp_b16_or h1 (sp_b16_or (sp_b16_sh h2.1) (sp_b16_sh h2.2))
    · split
      · exact sp_b16_or h1 (sp_b16_sh h2.2)
      · exact h1
theorem sp_far_abs0 : ∀ a, a < 16 → ∀ b, b < 16 → (if (0 : Int32) ≤ nI a - nI b then nI a - nI b else 0 - (nI a - nI b)) = sp_far (nI a) (nI b) := by decide +kernel
theorem sp_far_abs {x y : Int32} (hx : sp_fl x) (hy : sp_fl y) : (if (0 : Int32) ≤ x - y then x - y else 0 - (x - y)) = sp_far x y := by
  obtain ⟨a, ha, rfl⟩ := hx
  obtain ⟨b, hb, rfl⟩ := hy
  exact sp_far_abs0 a ha b hb
end
section
theorem fX0_has_36 : gl_fl wsX0_has RX0 36 0 0 := ⟨RX0, TX0, 9, RX0, rfl, by decide, by decide +kernel, by decide +kernel, rfl⟩
theorem fX0_rides_18 : gl_fl wsX0_rides RX0 18 0 3 := ⟨RX0, TX0, 9, RX0, rfl, by decide, by decide +kernel, by decide +kernel, rfl⟩
theorem fX0_rides_21 : gl_fl wsX0_rides RX0 21 0 4 := ⟨RX0, TX0, 9, RX0, rfl, by decide, by decide +kernel, by decide +kernel, rfl⟩
theorem fX0_waitsFor_18 : gl_fl wsX0_waitsFor RX0 18 0 3 := ⟨RX0, TX0, 9, RX0, rfl, by decide, by decide +kernel, by decide +kernel, rfl⟩
theorem fX0_waitsFor_21 : gl_fl wsX0_waitsFor RX0 21 0 4 := ⟨RX0, TX0, 9, RX0, rfl, by decide, by decide +kernel, by decide +kernel, rfl⟩
theorem fX0_numberIn_18 : gl_fl wsX0_numberIn RX0 18 0 3 := ⟨RX0, TX0, 9, RX0, rfl, by decide, by decide +kernel, by decide +kernel, rfl⟩
theorem fX0_numberIn_36 : gl_fl wsX0_numberIn RX0 36 0 0 := ⟨RX0, TX0, 9, RX0, rfl, by decide, by decide +kernel, by decide +kernel, rfl⟩
theorem fX0_numberOf_18 : gl_fl wsX0_numberOf RX0 18 0 3 := ⟨RX0, TX0, 9, RX0, rfl, by decide, by decide +kernel, by decide +kernel, rfl⟩
theorem fX0_numberOf_21 : gl_fl wsX0_numberOf RX0 21 0 4 := ⟨RX0, TX0, 9, RX0, rfl, by decide, by decide +kernel, by decide +kernel, rfl⟩
theorem fX0_numberOf_36 : gl_fl wsX0_numberOf RX0 36 0 0 := ⟨RX0, TX0, 9, RX0, rfl, by decide, by decide +kernel, by decide +kernel, rfl⟩
theorem fX0_stopsOf_9 : gl_fl wsX0_stopsOf RX0 9 0 1 := ⟨RX0, TX0, 9, RX0, rfl, by decide, by decide +kernel, by decide +kernel, rfl⟩
theorem fX0_stopsOf_15 : gl_fl wsX0_stopsOf RX0 15 0 2 := ⟨RX0, TX0, 9, RX0, rfl, by decide, by decide +kernel, by decide +kernel, rfl⟩
theorem fX0_stopsOf_36 : gl_fl wsX0_stopsOf RX0 36 0 0 := ⟨RX0, TX0, 9, RX0, rfl, by decide, by decide +kernel, by decide +kernel, rfl⟩
theorem fX0_isInGroup_18 : gl_fl wsX0_isInGroup RX0 18 0 3 := ⟨RX0, TX0, 9, RX0, rfl, by decide, by decide +kernel, by decide +kernel, rfl⟩
theorem fX0_sameGroup_9 : gl_fl wsX0_sameGroup RX0 9 0 1 := ⟨RX0, TX0, 9, RX0, rfl, by decide, by decide +kernel, by decide +kernel, rfl⟩
theorem fX0_sameGroup_15 : gl_fl wsX0_sameGroup RX0 15 0 2 := ⟨RX0, TX0, 9, RX0, rfl, by decide, by decide +kernel, by decide +kernel, rfl⟩
set_option maxRecDepth 100000 in
set_option maxHeartbeats 4000000 in
theorem ctX0_has (F : gl_F) (M : Nat → Int32) (x : Int32) : gl_Ct F LH yX0_has wsX0_has rmX0_has [.ref (gl_r F 9), .int x] M (some (.int (if sp_has x (M 2) then nI 1 else nI 0))) (M) := by
  refine gl_met (cc := cX0_has) (maxL := 2) (ret := some .boolean) [some (.ref (gl_r F 9)), some (.int x)] (by decide) rfl ok_LH (by simp [Value.category]) (Nat.le_of_ble_eq_true rfl) rfl (fun V hV C => ?_)
  subst hV
  refine gl_iload_1 C dX0_has_0 ?_
  refine gl_iflt 16 C dX0_has_1 (by decide) (fun h1 => ?_) (fun h1 => ?_)
  · skip
    refine gl_iconst (nI 0) C dX0_has_16 (by decide) ?_
    exact gl_zret C dX0_has_17 (by rfl) (by simp [*]) (rfl)
  · skip
    refine gl_iload_1 C dX0_has_4 ?_
    refine gl_aload_0 C dX0_has_5 ?_
    refine gl_getI C dX0_has_6 fX0_has_36 rfl rfl ?_
    refine gl_icmp_ge 16 C dX0_has_9 (by decide) (fun h9 => ?_) (fun h9 => ?_)
    · skip
      refine gl_iconst (nI 0) C dX0_has_16 (by decide) ?_
      exact gl_zret C dX0_has_17 (by rfl) (by simp [*]) (rfl)
    · skip
      refine gl_iconst (nI 1) C dX0_has_12 (by decide) ?_
      refine gl_goto 17 C dX0_has_13 (by decide) ?_
      exact gl_zret C dX0_has_17 (by rfl) (by simp [*]) (rfl)
set_option maxRecDepth 100000 in
set_option maxHeartbeats 4000000 in
theorem ctX0_rides (F : gl_F) (M : Nat → Int32) (k : Nat) (hk : k < 40) (c : Int32) : gl_Ct F LH yX0_rides wsX0_rides rmX0_rides [.ref (gl_r F 9), .int (nI k), .int c] M (some (.int (if sp_rd M k c then nI 1 else nI 0))) (M) := by
  refine gl_met (cc := cX0_rides) (maxL := 3) (ret := some .boolean) [some (.ref (gl_r F 9)), some (.int (nI k)), some (.int c)] (by decide) rfl ok_LH (by simp [Value.category]) (Nat.le_of_ble_eq_true rfl) rfl (fun V hV C => ?_)
  subst hV
  refine gl_aload_0 C dX0_rides_0 ?_
  refine gl_getR C dX0_rides_1 fX0_rides_18 rfl rfl ?_
  refine gl_iload_1 C dX0_rides_4 ?_
  refine gl_iald _ C dX0_rides_5 rfl rfl (by omega) ?_
  refine gl_iconst (nI 2) C dX0_rides_6 (by decide) ?_
  refine gl_icmp_ne 24 C dX0_rides_7 (by decide) (fun h7 => ?_) (fun h7 => ?_)
  · skip
    refine gl_iconst (nI 0) C dX0_rides_24 (by decide) ?_
    exact gl_zret C dX0_rides_25 (by rfl) (by simp [*]) (rfl)
  · skip
    refine gl_aload_0 C dX0_rides_10 ?_
    refine gl_getR C dX0_rides_11 fX0_rides_21 rfl rfl ?_
    refine gl_iload_1 C dX0_rides_14 ?_
    refine gl_iald _ C dX0_rides_15 rfl rfl (by omega) ?_
    refine gl_iload_2 C dX0_rides_16 ?_
    refine gl_icmp_ne 24 C dX0_rides_17 (by decide) (fun h17 => ?_) (fun h17 => ?_)
    · skip
      refine gl_iconst (nI 0) C dX0_rides_24 (by decide) ?_
      exact gl_zret C dX0_rides_25 (by rfl) (by simp [*]) (rfl)
    · skip
      refine gl_iconst (nI 1) C dX0_rides_20 (by decide) ?_
      refine gl_goto 25 C dX0_rides_21 (by decide) ?_
      exact gl_zret C dX0_rides_25 (by rfl) (by simp [*]) (rfl)
set_option maxRecDepth 100000 in
set_option maxHeartbeats 4000000 in
theorem ctX0_waitsFor (F : gl_F) (M : Nat → Int32) (k : Nat) (hk : k < 40) (c : Int32) : gl_Ct F LH yX0_waitsFor wsX0_waitsFor rmX0_waitsFor [.ref (gl_r F 9), .int (nI k), .int c] M (some (.int (if sp_wt M k c then nI 1 else nI 0))) (M) := by
  refine gl_met (cc := cX0_waitsFor) (maxL := 3) (ret := some .boolean) [some (.ref (gl_r F 9)), some (.int (nI k)), some (.int c)] (by decide) rfl ok_LH (by simp [Value.category]) (Nat.le_of_ble_eq_true rfl) rfl (fun V hV C => ?_)
  subst hV
  refine gl_aload_0 C dX0_waitsFor_0 ?_
  refine gl_getR C dX0_waitsFor_1 fX0_waitsFor_18 rfl rfl ?_
  refine gl_iload_1 C dX0_waitsFor_4 ?_
  refine gl_iald _ C dX0_waitsFor_5 rfl rfl (by omega) ?_
  refine gl_iconst (nI 1) C dX0_waitsFor_6 (by decide) ?_
  refine gl_icmp_ne 24 C dX0_waitsFor_7 (by decide) (fun h7 => ?_) (fun h7 => ?_)
  · skip
    refine gl_iconst (nI 0) C dX0_waitsFor_24 (by decide) ?_
    exact gl_zret C dX0_waitsFor_25 (by rfl) (by simp [*]) (rfl)
  · skip
    refine gl_aload_0 C dX0_waitsFor_10 ?_
    refine gl_getR C dX0_waitsFor_11 fX0_waitsFor_21 rfl rfl ?_
    refine gl_iload_1 C dX0_waitsFor_14 ?_
    refine gl_iald _ C dX0_waitsFor_15 rfl rfl (by omega) ?_
    refine gl_iload_2 C dX0_waitsFor_16 ?_
    refine gl_icmp_ne 24 C dX0_waitsFor_17 (by decide) (fun h17 => ?_) (fun h17 => ?_)
    · skip
      refine gl_iconst (nI 0) C dX0_waitsFor_24 (by decide) ?_
      exact gl_zret C dX0_waitsFor_25 (by rfl) (by simp [*]) (rfl)
    · skip
      refine gl_iconst (nI 1) C dX0_waitsFor_20 (by decide) ?_
      refine gl_goto 25 C dX0_waitsFor_21 (by decide) ?_
      exact gl_zret C dX0_waitsFor_25 (by rfl) (by simp [*]) (rfl)
set_option maxRecDepth 100000 in
set_option maxHeartbeats 4000000 in
theorem ctX0_numberIn (F : gl_F) {n : Nat} (hn40 : n ≤ 40) {M : Nat → Int32} (hn : M 2 = nI n) (is : Int32) : gl_Ct F LH yX0_numberIn wsX0_numberIn rmX0_numberIn [.ref (gl_r F 9), .int is] M (some (.int (sp_in M is n))) (M) := by
  refine gl_met (cc := cX0_numberIn) (maxL := 4) (ret := some .int) [some (.ref (gl_r F 9)), some (.int is), none, none] (by decide) rfl ok_LH (by simp [Value.category]) (Nat.le_of_ble_eq_true rfl) rfl (fun V hV C => ?_)
  subst hV
  refine gl_iconst (nI 0) C dX0_numberIn_0 (by decide) ?_
  refine gl_istore_2 C dX0_numberIn_1 ?_
  refine gl_iconst (nI 0) C dX0_numberIn_2 (by decide) ?_
  refine gl_istore_3 C dX0_numberIn_3 ?_
  refine gl_loop (n := n) (fun k => [some (.ref (gl_r V.1 9)), some (.int is), some (.int (sp_in M is k)), some (.int (nI k))]) (fun k => M) (fun k => True) 0 (Nat.zero_le _) (trivial) (gl_le_c (rfl) (gl_le_c (rfl) (gl_le_c (rfl) (gl_le_c (rfl) (gl_le_n))))) (rfl) (fun hI => ?_) (fun k hk hI ih => ?_)
  · skip
    refine gl_iload_3 C dX0_numberIn_4 ?_
    refine gl_aload_0 C dX0_numberIn_5 ?_
    refine gl_getI C dX0_numberIn_6 fX0_numberIn_36 rfl rfl ?_
    refine gl_top hn ?_
    refine gl_icmp_ge 31 C dX0_numberIn_9 (by decide) (fun h9 => ?_) (fun h9 => absurd h9 (gl_xge))
    refine gl_iload_2 C dX0_numberIn_31 ?_
    exact gl_iret C dX0_numberIn_32 (rfl) (rfl)
  · skip
    refine gl_iload_3 C dX0_numberIn_4 ?_
    refine gl_aload_0 C dX0_numberIn_5 ?_
    refine gl_getI C dX0_numberIn_6 fX0_numberIn_36 rfl rfl ?_
    refine gl_top hn ?_
    refine gl_icmp_ge 31 C dX0_numberIn_9 (by decide) (fun h9 => absurd h9 (nI_ge hk (by omega))) (fun h9 => ?_)
    refine gl_aload_0 C dX0_numberIn_12 ?_
    refine gl_getR C dX0_numberIn_13 fX0_numberIn_18 rfl rfl ?_
    refine gl_iload_3 C dX0_numberIn_16 ?_
    refine gl_iald _ C dX0_numberIn_17 rfl rfl (by omega) ?_
    refine gl_iload_1 C dX0_numberIn_18 ?_
    refine gl_icmp_ne 25 C dX0_numberIn_19 (by decide) (fun h19 => ?_) (fun h19 => ?_)
    · skip
      first | refine gl_iincN_3 1 C dX0_numberIn_25 ?_ | refine gl_iinc_3 C dX0_numberIn_25 (gl_inc1 _) ?_
      refine gl_goto 4 C dX0_numberIn_28 (by decide) ?_
      exact gl_on (ih (trivial)) (gl_le_c (rfl) (gl_le_c (rfl) (gl_le_c (congrArg Value.int (by simp [sp_in, *])) (gl_le_c (rfl) (gl_le_n))))) (rfl)
    · skip
      first | refine gl_iincN_2 1 C dX0_numberIn_22 ?_ | refine gl_iinc_2 C dX0_numberIn_22 (gl_inc1 _) ?_
      first | refine gl_iincN_3 1 C dX0_numberIn_25 ?_ | refine gl_iinc_3 C dX0_numberIn_25 (gl_inc1 _) ?_
      refine gl_goto 4 C dX0_numberIn_28 (by decide) ?_
      exact gl_on (ih (trivial)) (gl_le_c (rfl) (gl_le_c (rfl) (gl_le_c (congrArg Value.int (by simp [sp_in, *])) (gl_le_c (rfl) (gl_le_n))))) (rfl)
set_option maxRecDepth 100000 in
set_option maxHeartbeats 4000000 in
theorem ctX0_numberOf (F : gl_F) {n : Nat} (hn40 : n ≤ 40) {M : Nat → Int32} (hn : M 2 = nI n) (c is : Int32) : gl_Ct F LH yX0_numberOf wsX0_numberOf rmX0_numberOf [.ref (gl_r F 9), .int c, .int is] M (some (.int (sp_of M c is n))) (M) := by
  refine gl_met (cc := cX0_numberOf) (maxL := 5) (ret := some .int) [some (.ref (gl_r F 9)), some (.int c), some (.int is), none, none] (by decide) rfl ok_LH (by simp [Value.category]) (Nat.le_of_ble_eq_true rfl) rfl (fun V hV C => ?_)
  subst hV
  refine gl_iconst (nI 0) C dX0_numberOf_0 (by decide) ?_
  refine gl_istore_3 C dX0_numberOf_1 ?_
  refine gl_iconst (nI 0) C dX0_numberOf_2 (by decide) ?_
  refine gl_istore_4 C dX0_numberOf_3 ?_
  refine gl_loop (n := n) (fun k => [some (.ref (gl_r V.1 9)), some (.int c), some (.int is), some (.int (sp_of M c is k)), some (.int (nI k))]) (fun k => M) (fun k => True) 0 (Nat.zero_le _) (trivial) (gl_le_c (rfl) (gl_le_c (rfl) (gl_le_c (rfl) (gl_le_c (rfl) (gl_le_c (rfl) (gl_le_n)))))) (rfl) (fun hI => ?_) (fun k hk hI ih => ?_)
  · skip
    refine gl_iload_4 C dX0_numberOf_5 ?_
    refine gl_aload_0 C dX0_numberOf_7 ?_
    refine gl_getI C dX0_numberOf_8 fX0_numberOf_36 rfl rfl ?_
    refine gl_top hn ?_
    refine gl_icmp_ge 45 C dX0_numberOf_11 (by decide) (fun h11 => ?_) (fun h11 => absurd h11 (gl_xge))
    refine gl_iload_3 C dX0_numberOf_45 ?_
    exact gl_iret C dX0_numberOf_46 (rfl) (rfl)
  · skip
    refine gl_iload_4 C dX0_numberOf_5 ?_
    refine gl_aload_0 C dX0_numberOf_7 ?_
    refine gl_getI C dX0_numberOf_8 fX0_numberOf_36 rfl rfl ?_
    refine gl_top hn ?_
    refine gl_icmp_ge 45 C dX0_numberOf_11 (by decide) (fun h11 => absurd h11 (nI_ge hk (by omega))) (fun h11 => ?_)
    refine gl_aload_0 C dX0_numberOf_14 ?_
    refine gl_getR C dX0_numberOf_15 fX0_numberOf_18 rfl rfl ?_
    refine gl_iload_4 C dX0_numberOf_18 ?_
    refine gl_iald _ C dX0_numberOf_20 rfl rfl (by omega) ?_
    refine gl_iload_2 C dX0_numberOf_21 ?_
    refine gl_icmp_ne 39 C dX0_numberOf_22 (by decide) (fun h22 => ?_) (fun h22 => ?_)
    · skip
      first | refine gl_iincN_4 1 C dX0_numberOf_39 ?_ | refine gl_iinc_4 C dX0_numberOf_39 (gl_inc1 _) ?_
      refine gl_goto 5 C dX0_numberOf_42 (by decide) ?_
      exact gl_on (ih (trivial)) (gl_le_c (rfl) (gl_le_c (rfl) (gl_le_c (rfl) (gl_le_c (congrArg Value.int (by simp [sp_of, *])) (gl_le_c (rfl) (gl_le_n)))))) (rfl)
    · skip
      refine gl_aload_0 C dX0_numberOf_25 ?_
      refine gl_getR C dX0_numberOf_26 fX0_numberOf_21 rfl rfl ?_
      refine gl_iload_4 C dX0_numberOf_29 ?_
      refine gl_iald _ C dX0_numberOf_31 rfl rfl (by omega) ?_
      refine gl_iload_1 C dX0_numberOf_32 ?_
      refine gl_icmp_ne 39 C dX0_numberOf_33 (by decide) (fun h33 => ?_) (fun h33 => ?_)
      · skip
        first | refine gl_iincN_4 1 C dX0_numberOf_39 ?_ | refine gl_iinc_4 C dX0_numberOf_39 (gl_inc1 _) ?_
        refine gl_goto 5 C dX0_numberOf_42 (by decide) ?_
        exact gl_on (ih (trivial)) (gl_le_c (rfl) (gl_le_c (rfl) (gl_le_c (rfl) (gl_le_c (congrArg Value.int (by simp [sp_of, *])) (gl_le_c (rfl) (gl_le_n)))))) (rfl)
      · skip
        first | refine gl_iincN_3 1 C dX0_numberOf_36 ?_ | refine gl_iinc_3 C dX0_numberOf_36 (gl_inc1 _) ?_
        first | refine gl_iincN_4 1 C dX0_numberOf_39 ?_ | refine gl_iinc_4 C dX0_numberOf_39 (gl_inc1 _) ?_
        refine gl_goto 5 C dX0_numberOf_42 (by decide) ?_
        exact gl_on (ih (trivial)) (gl_le_c (rfl) (gl_le_c (rfl) (gl_le_c (rfl) (gl_le_c (congrArg Value.int (by simp [sp_of, *])) (gl_le_c (rfl) (gl_le_n)))))) (rfl)
set_option maxRecDepth 100000 in
set_option maxHeartbeats 4000000 in
theorem ctX0_numberWith (F : gl_F) {n : Nat} (hn40 : n ≤ 40) {M : Nat → Int32} (hn : M 2 = nI n) (c : Int32) : gl_Ct F LH yX0_numberWith wsX0_numberWith rmX0_numberWith [.ref (gl_r F 9), .int c] M (some (.int (sp_with M c n))) (M) := by
  refine gl_met (cc := cX0_numberWith) (maxL := 2) (ret := some .int) [some (.ref (gl_r F 9)), some (.int c)] (by decide) rfl ok_LH (by simp [Value.category]) (Nat.le_of_ble_eq_true rfl) rfl (fun V hV C => ?_)
  subst hV
  refine gl_aload_0 C dX0_numberWith_0 ?_
  refine gl_iload_1 C dX0_numberWith_1 ?_
  refine gl_iconst (nI 1) C dX0_numberWith_2 (by decide) ?_
  refine gl_callVi (ctX0_numberOf V.1 hn40 hn c (nI 1)) C dX0_numberWith_3 gX0_numberWith_X0_numberOf rfl hdX0_numberOf ⟨rfl, rfl, Nat.le_of_ble_eq_true rfl, Nat.le_of_ble_eq_true rfl⟩ rfl (Nat.le_of_ble_eq_true rfl) rfl rfl rfl ?_
  refine gl_aload_0 C dX0_numberWith_6 ?_
  refine gl_iload_1 C dX0_numberWith_7 ?_
  refine gl_iconst (nI 2) C dX0_numberWith_8 (by decide) ?_
  refine gl_callVi (ctX0_numberOf V.1 hn40 hn c (nI 2)) C dX0_numberWith_9 gX0_numberWith_X0_numberOf rfl hdX0_numberOf ⟨rfl, rfl, Nat.le_of_ble_eq_true rfl, Nat.le_of_ble_eq_true rfl⟩ rfl (Nat.le_of_ble_eq_true rfl) rfl rfl rfl ?_
  first | refine gl_iaddN C dX0_numberWith_12 ?_ | refine gl_iadd C dX0_numberWith_12 ?_
  exact gl_iret C dX0_numberWith_13 (rfl) (rfl)
set_option maxRecDepth 100000 in
set_option maxHeartbeats 4000000 in
theorem ctX0_stopsOf (F : gl_F) {n : Nat} (hn40 : n ≤ 40) {M : Nat → Int32} (hn : M 2 = nI n) (c : Int32) : gl_Ct F LH yX0_stopsOf wsX0_stopsOf rmX0_stopsOf [.ref (gl_r F 9), .int c] M (some (.int (sp_stops M c n))) (M) := by
  refine gl_met (cc := cX0_stopsOf) (maxL := 4) (ret := some .int) [some (.ref (gl_r F 9)), some (.int c), none, none] (by decide) rfl ok_LH (by simp [Value.category]) (Nat.le_of_ble_eq_true rfl) rfl (fun V hV C => ?_)
  subst hV
  refine gl_iconst (nI 0) C dX0_stopsOf_0 (by decide) ?_
  refine gl_istore_2 C dX0_stopsOf_1 ?_
  refine gl_iconst (nI 0) C dX0_stopsOf_2 (by decide) ?_
  refine gl_istore_3 C dX0_stopsOf_3 ?_
  refine gl_loop (n := n) (fun k => [some (.ref (gl_r V.1 9)), some (.int c), some (.int (sp_stops M c k)), some (.int (nI k))]) (fun k => M) (fun k => True) 0 (Nat.zero_le _) (trivial) (gl_le_c (rfl) (gl_le_c (rfl) (gl_le_c (rfl) (gl_le_c (rfl) (gl_le_n))))) (rfl) (fun hI => ?_) (fun k hk hI ih => ?_)
  · skip
    refine gl_iload_3 C dX0_stopsOf_4 ?_
    refine gl_aload_0 C dX0_stopsOf_5 ?_
    refine gl_getI C dX0_stopsOf_6 fX0_stopsOf_36 rfl rfl ?_
    refine gl_top hn ?_
    refine gl_icmp_ge 70 C dX0_stopsOf_9 (by decide) (fun h9 => ?_) (fun h9 => absurd h9 (gl_xge))
    refine gl_iload_2 C dX0_stopsOf_70 ?_
    exact gl_iret C dX0_stopsOf_71 (rfl) (rfl)
  · skip
    refine gl_iload_3 C dX0_stopsOf_4 ?_
    refine gl_aload_0 C dX0_stopsOf_5 ?_
    refine gl_getI C dX0_stopsOf_6 fX0_stopsOf_36 rfl rfl ?_
    refine gl_top hn ?_
    refine gl_icmp_ge 70 C dX0_stopsOf_9 (by decide) (fun h9 => absurd h9 (nI_ge hk (by omega))) (fun h9 => ?_)
    refine gl_aload_0 C dX0_stopsOf_12 ?_
    refine gl_iload_3 C dX0_stopsOf_13 ?_
    refine gl_iload_1 C dX0_stopsOf_14 ?_
    refine gl_callVi (ctX0_waitsFor V.1 M k (by omega) c) C dX0_stopsOf_15 gX0_stopsOf_X0_waitsFor rfl hdX0_waitsFor ⟨rfl, rfl, Nat.le_of_ble_eq_true rfl, Nat.le_of_ble_eq_true rfl⟩ rfl (Nat.le_of_ble_eq_true rfl) rfl rfl rfl ?_
    refine gl_ifeq 44 C dX0_stopsOf_18 (by decide) (fun h18 => ?_) (fun h18 => ?_)
    · skip
      replace h18 := gl_bz.mp h18
      refine gl_aload_0 C dX0_stopsOf_44 ?_
      refine gl_iload_3 C dX0_stopsOf_45 ?_
      refine gl_iload_1 C dX0_stopsOf_46 ?_
      refine gl_callVi (ctX0_rides V.1 M k (by omega) c) C dX0_stopsOf_47 gX0_stopsOf_X0_rides rfl hdX0_rides ⟨rfl, rfl, Nat.le_of_ble_eq_true rfl, Nat.le_of_ble_eq_true rfl⟩ rfl (Nat.le_of_ble_eq_true rfl) rfl rfl rfl ?_
      refine gl_ifeq 64 C dX0_stopsOf_50 (by decide) (fun h50 => ?_) (fun h50 => ?_)
      · skip
        replace h50 := gl_bz.mp h50
        first | refine gl_iincN_3 1 C dX0_stopsOf_64 ?_ | refine gl_iinc_3 C dX0_stopsOf_64 (gl_inc1 _) ?_
        refine gl_goto 4 C dX0_stopsOf_67 (by decide) ?_
        exact gl_on (ih (trivial)) (gl_le_c (rfl) (gl_le_c (rfl) (gl_le_c (congrArg Value.int (by simp only [sp_stops, if_pos, if_neg, *]; try simp [*])) (gl_le_c (rfl) (gl_le_n))))) (rfl)
      · skip
        replace h50 := gl_bn.mp h50
        refine gl_iload_2 C dX0_stopsOf_53 ?_
        refine gl_iconst (nI 1) C dX0_stopsOf_54 (by decide) ?_
        refine gl_aload_0 C dX0_stopsOf_55 ?_
        refine gl_getR C dX0_stopsOf_56 fX0_stopsOf_15 rfl rfl ?_
        refine gl_iload_3 C dX0_stopsOf_59 ?_
        refine gl_iald _ C dX0_stopsOf_60 rfl rfl (by omega) ?_
        refine gl_ishl C dX0_stopsOf_61 ?_
        refine gl_ior C dX0_stopsOf_62 ?_
        refine gl_istore_2 C dX0_stopsOf_63 ?_
        first | refine gl_iincN_3 1 C dX0_stopsOf_64 ?_ | refine gl_iinc_3 C dX0_stopsOf_64 (gl_inc1 _) ?_
        refine gl_goto 4 C dX0_stopsOf_67 (by decide) ?_
        exact gl_on (ih (trivial)) (gl_le_c (rfl) (gl_le_c (rfl) (gl_le_c (congrArg Value.int (by simp only [sp_stops, if_pos, if_neg, *]; try simp [*])) (gl_le_c (rfl) (gl_le_n))))) (rfl)
    · skip
      replace h18 := gl_bn.mp h18
      refine gl_iload_2 C dX0_stopsOf_21 ?_
      refine gl_iconst (nI 1) C dX0_stopsOf_22 (by decide) ?_
      refine gl_aload_0 C dX0_stopsOf_23 ?_
      refine gl_getR C dX0_stopsOf_24 fX0_stopsOf_9 rfl rfl ?_
      refine gl_iload_3 C dX0_stopsOf_27 ?_
      refine gl_iald _ C dX0_stopsOf_28 rfl rfl (by omega) ?_
      refine gl_ishl C dX0_stopsOf_29 ?_
      refine gl_iconst (nI 1) C dX0_stopsOf_30 (by decide) ?_
      refine gl_aload_0 C dX0_stopsOf_31 ?_
      refine gl_getR C dX0_stopsOf_32 fX0_stopsOf_15 rfl rfl ?_
      refine gl_iload_3 C dX0_stopsOf_35 ?_
      refine gl_iald _ C dX0_stopsOf_36 rfl rfl (by omega) ?_
      refine gl_ishl C dX0_stopsOf_37 ?_
      refine gl_ior C dX0_stopsOf_38 ?_
      refine gl_ior C dX0_stopsOf_39 ?_
      refine gl_istore_2 C dX0_stopsOf_40 ?_
      refine gl_goto 64 C dX0_stopsOf_41 (by decide) ?_
      first | refine gl_iincN_3 1 C dX0_stopsOf_64 ?_ | refine gl_iinc_3 C dX0_stopsOf_64 (gl_inc1 _) ?_
      refine gl_goto 4 C dX0_stopsOf_67 (by decide) ?_
      exact gl_on (ih (trivial)) (gl_le_c (rfl) (gl_le_c (rfl) (gl_le_c (congrArg Value.int (by simp only [sp_stops, if_pos, if_neg, *]; try simp [*])) (gl_le_c (rfl) (gl_le_n))))) (rfl)
set_option maxRecDepth 100000 in
set_option maxHeartbeats 4000000 in
theorem ctX0_isNearer (F : gl_F) (M : Nat → Int32) {a b fl : Int32} (ha : sp_fl a) (hb : sp_fl b) (hf : sp_fl fl) : gl_Ct F LH yX0_isNearer wsX0_isNearer rmX0_isNearer [.int a, .int b, .int fl] M (some (.int (if sp_near a b fl then nI 1 else nI 0))) (M) := by
  refine gl_met (cc := cX0_isNearer) (maxL := 5) (ret := some .boolean) [some (.int a), some (.int b), some (.int fl), none, none] (by decide) rfl ok_LH (by simp [Value.category]) (Nat.le_of_ble_eq_true rfl) rfl (fun V hV C => ?_)
  subst hV
  refine gl_iload_0 C dX0_isNearer_0 ?_
  refine gl_iload_2 C dX0_isNearer_1 ?_
  refine gl_isub C dX0_isNearer_2 ?_
  refine gl_abs C dX0_isNearer_3 (by decide +kernel) (by decide +kernel) (by decide +kernel) (by decide +kernel) ⟨Nat.le_of_ble_eq_true rfl, Nat.le_of_ble_eq_true rfl⟩ ?_
  refine gl_top (sp_far_abs ha hf) ?_
  refine gl_istore_3 C dX0_isNearer_6 ?_
  refine gl_iload_1 C dX0_isNearer_7 ?_
  refine gl_iload_2 C dX0_isNearer_8 ?_
  refine gl_isub C dX0_isNearer_9 ?_
  refine gl_abs C dX0_isNearer_10 (by decide +kernel) (by decide +kernel) (by decide +kernel) (by decide +kernel) ⟨Nat.le_of_ble_eq_true rfl, Nat.le_of_ble_eq_true rfl⟩ ?_
  refine gl_top (sp_far_abs hb hf) ?_
  refine gl_istore_4 C dX0_isNearer_13 ?_
  refine gl_iload_3 C dX0_isNearer_15 ?_
  refine gl_iload_4 C dX0_isNearer_16 ?_
  refine gl_icmp_lt 32 C dX0_isNearer_18 (by decide) (fun h18 => ?_) (fun h18 => ?_)
  · skip
    refine gl_iconst (nI 1) C dX0_isNearer_32 (by decide) ?_
    refine gl_goto 37 C dX0_isNearer_33 (by decide) ?_
    exact gl_zret C dX0_isNearer_37 (by rfl) (by simp [*]) (rfl)
  · skip
    refine gl_iload_3 C dX0_isNearer_21 ?_
    refine gl_iload_4 C dX0_isNearer_22 ?_
    refine gl_icmp_ne 36 C dX0_isNearer_24 (by decide) (fun h24 => ?_) (fun h24 => ?_)
    · skip
      refine gl_iconst (nI 0) C dX0_isNearer_36 (by decide) ?_
      exact gl_zret C dX0_isNearer_37 (by rfl) (by simp [*]) (rfl)
    · skip
      refine gl_iload_0 C dX0_isNearer_27 ?_
      refine gl_iload_1 C dX0_isNearer_28 ?_
      refine gl_icmp_ge 36 C dX0_isNearer_29 (by decide) (fun h29 => ?_) (fun h29 => ?_)
      · skip
        refine gl_iconst (nI 0) C dX0_isNearer_36 (by decide) ?_
        exact gl_zret C dX0_isNearer_37 (by rfl) (by simp [*]) (rfl)
      · skip
        refine gl_iconst (nI 1) C dX0_isNearer_32 (by decide) ?_
        refine gl_goto 37 C dX0_isNearer_33 (by decide) ?_
        exact gl_zret C dX0_isNearer_37 (by rfl) (by simp [*]) (rfl)
set_option maxRecDepth 100000 in
set_option maxHeartbeats 4000000 in
theorem ctX0_isInGroup (F : gl_F) (M : Nat → Int32) (k : Nat) (hk : k < 40) : gl_Ct F LH yX0_isInGroup wsX0_isInGroup rmX0_isInGroup [.ref (gl_r F 9), .int (nI k)] M (some (.int (if sp_open M k then nI 1 else nI 0))) (M) := by
  refine gl_met (cc := cX0_isInGroup) (maxL := 2) (ret := some .boolean) [some (.ref (gl_r F 9)), some (.int (nI k))] (by decide) rfl ok_LH (by simp [Value.category]) (Nat.le_of_ble_eq_true rfl) rfl (fun V hV C => ?_)
  subst hV
  refine gl_aload_0 C dX0_isInGroup_0 ?_
  refine gl_getR C dX0_isInGroup_1 fX0_isInGroup_18 rfl rfl ?_
  refine gl_iload_1 C dX0_isInGroup_4 ?_
  refine gl_iald _ C dX0_isInGroup_5 rfl rfl (by omega) ?_
  refine gl_ifeq 19 C dX0_isInGroup_6 (by decide) (fun h6 => ?_) (fun h6 => ?_)
  · skip
    refine gl_iconst (nI 1) C dX0_isInGroup_19 (by decide) ?_
    refine gl_goto 24 C dX0_isInGroup_20 (by decide) ?_
    exact gl_zret C dX0_isInGroup_24 (by rfl) (by simp [*]) (rfl)
  · skip
    refine gl_aload_0 C dX0_isInGroup_9 ?_
    refine gl_getR C dX0_isInGroup_10 fX0_isInGroup_18 rfl rfl ?_
    refine gl_iload_1 C dX0_isInGroup_13 ?_
    refine gl_iald _ C dX0_isInGroup_14 rfl rfl (by omega) ?_
    refine gl_iconst (nI 1) C dX0_isInGroup_15 (by decide) ?_
    refine gl_icmp_ne 23 C dX0_isInGroup_16 (by decide) (fun h16 => ?_) (fun h16 => ?_)
    · skip
      refine gl_iconst (nI 0) C dX0_isInGroup_23 (by decide) ?_
      exact gl_zret C dX0_isInGroup_24 (by rfl) (by simp [*]) (rfl)
    · skip
      refine gl_iconst (nI 1) C dX0_isInGroup_19 (by decide) ?_
      refine gl_goto 24 C dX0_isInGroup_20 (by decide) ?_
      exact gl_zret C dX0_isInGroup_24 (by rfl) (by simp [*]) (rfl)
set_option maxRecDepth 100000 in
set_option maxHeartbeats 4000000 in
theorem ctX0_sameGroup (F : gl_F) (M : Nat → Int32) (j k : Nat) (hj : j < 40) (hk : k < 40) : gl_Ct F LH yX0_sameGroup wsX0_sameGroup rmX0_sameGroup [.ref (gl_r F 9), .int (nI j), .int (nI k)] M (some (.int (if sp_same M j k then nI 1 else nI 0))) (M) := by
  refine gl_met (cc := cX0_sameGroup) (maxL := 3) (ret := some .boolean) [some (.ref (gl_r F 9)), some (.int (nI j)), some (.int (nI k))] (by decide) rfl ok_LH (by simp [Value.category]) (Nat.le_of_ble_eq_true rfl) rfl (fun V hV C => ?_)
  subst hV
  refine gl_aload_0 C dX0_sameGroup_0 ?_
  refine gl_iload_1 C dX0_sameGroup_1 ?_
  refine gl_callVi (ctX0_isInGroup V.1 M j hj) C dX0_sameGroup_2 gX0_sameGroup_X0_isInGroup rfl hdX0_isInGroup ⟨rfl, rfl, Nat.le_of_ble_eq_true rfl, Nat.le_of_ble_eq_true rfl⟩ rfl (Nat.le_of_ble_eq_true rfl) rfl rfl rfl ?_
  refine gl_ifeq 50 C dX0_sameGroup_5 (by decide) (fun h5 => ?_) (fun h5 => ?_)
  · skip
    replace h5 := gl_bz.mp h5
    refine gl_iconst (nI 0) C dX0_sameGroup_50 (by decide) ?_
    exact gl_zret C dX0_sameGroup_51 (by rfl) (by simp only [sp_same, *]; try simp [*]) (rfl)
  · skip
    replace h5 := gl_bn.mp h5
    refine gl_aload_0 C dX0_sameGroup_8 ?_
    refine gl_iload_2 C dX0_sameGroup_9 ?_
    refine gl_callVi (ctX0_isInGroup V.1 M k hk) C dX0_sameGroup_10 gX0_sameGroup_X0_isInGroup rfl hdX0_isInGroup ⟨rfl, rfl, Nat.le_of_ble_eq_true rfl, Nat.le_of_ble_eq_true rfl⟩ rfl (Nat.le_of_ble_eq_true rfl) rfl rfl rfl ?_
    refine gl_ifeq 50 C dX0_sameGroup_13 (by decide) (fun h13 => ?_) (fun h13 => ?_)
    · skip
      replace h13 := gl_bz.mp h13
      refine gl_iconst (nI 0) C dX0_sameGroup_50 (by decide) ?_
      exact gl_zret C dX0_sameGroup_51 (by rfl) (by simp only [sp_same, *]; try simp [*]) (rfl)
    · skip
      replace h13 := gl_bn.mp h13
      refine gl_aload_0 C dX0_sameGroup_16 ?_
      refine gl_getR C dX0_sameGroup_17 fX0_sameGroup_9 rfl rfl ?_
      refine gl_iload_1 C dX0_sameGroup_20 ?_
      refine gl_iald _ C dX0_sameGroup_21 rfl rfl (by omega) ?_
      refine gl_aload_0 C dX0_sameGroup_22 ?_
      refine gl_getR C dX0_sameGroup_23 fX0_sameGroup_9 rfl rfl ?_
      refine gl_iload_2 C dX0_sameGroup_26 ?_
      refine gl_iald _ C dX0_sameGroup_27 rfl rfl (by omega) ?_
      refine gl_icmp_ne 50 C dX0_sameGroup_28 (by decide) (fun h28 => ?_) (fun h28 => ?_)
      · skip
        refine gl_iconst (nI 0) C dX0_sameGroup_50 (by decide) ?_
        exact gl_zret C dX0_sameGroup_51 (by rfl) (by simp only [sp_same, *]; try simp [*]) (rfl)
      · skip
        refine gl_aload_0 C dX0_sameGroup_31 ?_
        refine gl_getR C dX0_sameGroup_32 fX0_sameGroup_15 rfl rfl ?_
        refine gl_iload_1 C dX0_sameGroup_35 ?_
        refine gl_iald _ C dX0_sameGroup_36 rfl rfl (by omega) ?_
        refine gl_aload_0 C dX0_sameGroup_37 ?_
        refine gl_getR C dX0_sameGroup_38 fX0_sameGroup_15 rfl rfl ?_
        refine gl_iload_2 C dX0_sameGroup_41 ?_
        refine gl_iald _ C dX0_sameGroup_42 rfl rfl (by omega) ?_
        refine gl_icmp_ne 50 C dX0_sameGroup_43 (by decide) (fun h43 => ?_) (fun h43 => ?_)
        · skip
          refine gl_iconst (nI 0) C dX0_sameGroup_50 (by decide) ?_
          exact gl_zret C dX0_sameGroup_51 (by rfl) (by simp only [sp_same, *]; try simp [*]) (rfl)
        · skip
          refine gl_iconst (nI 1) C dX0_sameGroup_46 (by decide) ?_
          refine gl_goto 51 C dX0_sameGroup_47 (by decide) ?_
          exact gl_zret C dX0_sameGroup_51 (by rfl) (by simp only [sp_same, *]; try simp [*]) (rfl)
end
