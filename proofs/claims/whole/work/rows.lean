section
-- ===== PART A: goes FIRST, ahead of the names: the tables' words, and 'selects' of the private methods out of them =====
/-- a private method of a class that the tables say can be made, by its rows of tables_1 -/
def lw_okq (q : MethodName × Nat) : Prop := (q.1.cls ≠ "java/lang/invoke/MethodHandle" ∧ q.1.cls ≠ "java/lang/invoke/VarHandle") ∧ Cond.instantiable q.1.cls q.2 ∈ tables_1 ∧ Cond.privateMethod q.1 ∈ tables_1 ∧ Cond.instanceMethod q.1 ∈ tables_1
theorem lw_p0 : lw_okq (⟨"GoalLifts", "allThereInWithout", "(I)I"⟩, 3) := ⟨⟨by decide +kernel, by decide +kernel⟩, List.mem_of_getElem? (i := 11) (by decide +kernel), List.mem_of_getElem? (i := 429) (by decide +kernel), List.mem_of_getElem? (i := 430) (by decide +kernel)⟩
theorem lw_p1 : lw_okq (⟨"GoalLiftsModel", "acts", "()V"⟩, 5) := ⟨⟨by decide +kernel, by decide +kernel⟩, List.mem_of_getElem? (i := 433) (by decide +kernel), List.mem_of_getElem? (i := 462) (by decide +kernel), List.mem_of_getElem? (i := 463) (by decide +kernel)⟩
theorem lw_p2 : lw_okq (⟨"GoalLiftsModel", "putsCar", "(III)V"⟩, 5) := ⟨⟨by decide +kernel, by decide +kernel⟩, List.mem_of_getElem? (i := 433) (by decide +kernel), List.mem_of_getElem? (i := 466) (by decide +kernel), List.mem_of_getElem? (i := 467) (by decide +kernel)⟩
theorem lw_p3 : lw_okq (⟨"GoalLiftsModel", "isCar", "(I)Z"⟩, 5) := ⟨⟨by decide +kernel, by decide +kernel⟩, List.mem_of_getElem? (i := 433) (by decide +kernel), List.mem_of_getElem? (i := 478) (by decide +kernel), List.mem_of_getElem? (i := 479) (by decide +kernel)⟩
theorem lw_p4 : lw_okq (⟨"GoalLiftsModel", "ofCar", "(II)I"⟩, 5) := ⟨⟨by decide +kernel, by decide +kernel⟩, List.mem_of_getElem? (i := 433) (by decide +kernel), List.mem_of_getElem? (i := 482) (by decide +kernel), List.mem_of_getElem? (i := 483) (by decide +kernel)⟩
theorem lw_p5 : lw_okq (⟨"GoalLiftsModel", "many", "(II)I"⟩, 5) := ⟨⟨by decide +kernel, by decide +kernel⟩, List.mem_of_getElem? (i := 433) (by decide +kernel), List.mem_of_getElem? (i := 486) (by decide +kernel), List.mem_of_getElem? (i := 487) (by decide +kernel)⟩
theorem lw_p6 : lw_okq (⟨"GoalLiftsModel", "ofCaller", "(II)I"⟩, 5) := ⟨⟨by decide +kernel, by decide +kernel⟩, List.mem_of_getElem? (i := 433) (by decide +kernel), List.mem_of_getElem? (i := 490) (by decide +kernel), List.mem_of_getElem? (i := 491) (by decide +kernel)⟩
theorem lw_p7 : lw_okq (⟨"GoalLiftsModel", "fails", "(I)V"⟩, 5) := ⟨⟨by decide +kernel, by decide +kernel⟩, List.mem_of_getElem? (i := 433) (by decide +kernel), List.mem_of_getElem? (i := 498) (by decide +kernel), List.mem_of_getElem? (i := 499) (by decide +kernel)⟩
theorem lw_p8 : lw_okq (⟨"GoalLiftsModel", "isOut", "(II)Z"⟩, 5) := ⟨⟨by decide +kernel, by decide +kernel⟩, List.mem_of_getElem? (i := 433) (by decide +kernel), List.mem_of_getElem? (i := 502) (by decide +kernel), List.mem_of_getElem? (i := 503) (by decide +kernel)⟩
theorem lw_p9 : lw_okq (⟨"GoalLiftsModel", "puts", "(III)V"⟩, 5) := ⟨⟨by decide +kernel, by decide +kernel⟩, List.mem_of_getElem? (i := 433) (by decide +kernel), List.mem_of_getElem? (i := 506) (by decide +kernel), List.mem_of_getElem? (i := 507) (by decide +kernel)⟩
theorem lw_p10 : lw_okq (⟨"GoalLiftsModel", "inAll", "(I)I"⟩, 5) := ⟨⟨by decide +kernel, by decide +kernel⟩, List.mem_of_getElem? (i := 433) (by decide +kernel), List.mem_of_getElem? (i := 510) (by decide +kernel), List.mem_of_getElem? (i := 511) (by decide +kernel)⟩
theorem lw_p11 : lw_okq (⟨"GoalLiftsModel", "gives", "(I)V"⟩, 5) := ⟨⟨by decide +kernel, by decide +kernel⟩, List.mem_of_getElem? (i := 433) (by decide +kernel), List.mem_of_getElem? (i := 528) (by decide +kernel), List.mem_of_getElem? (i := 529) (by decide +kernel)⟩
theorem lw_p12 : lw_okq (⟨"GoalLiftsModel", "best", "(II)I"⟩, 5) := ⟨⟨by decide +kernel, by decide +kernel⟩, List.mem_of_getElem? (i := 433) (by decide +kernel), List.mem_of_getElem? (i := 532) (by decide +kernel), List.mem_of_getElem? (i := 533) (by decide +kernel)⟩
theorem lw_p13 : lw_okq (⟨"GoalLiftsModel", "canBeGiven", "(III)Z"⟩, 5) := ⟨⟨by decide +kernel, by decide +kernel⟩, List.mem_of_getElem? (i := 433) (by decide +kernel), List.mem_of_getElem? (i := 536) (by decide +kernel), List.mem_of_getElem? (i := 537) (by decide +kernel)⟩
theorem lw_p14 : lw_okq (⟨"GoalLiftsModel", "isAwake", "(I)Z"⟩, 5) := ⟨⟨by decide +kernel, by decide +kernel⟩, List.mem_of_getElem? (i := 433) (by decide +kernel), List.mem_of_getElem? (i := 540) (by decide +kernel), List.mem_of_getElem? (i := 541) (by decide +kernel)⟩
theorem lw_p15 : lw_okq (⟨"GoalLiftsModel", "hour", "()I"⟩, 5) := ⟨⟨by decide +kernel, by decide +kernel⟩, List.mem_of_getElem? (i := 433) (by decide +kernel), List.mem_of_getElem? (i := 544) (by decide +kernel), List.mem_of_getElem? (i := 545) (by decide +kernel)⟩
def lw_privs_1 : List (MethodName × Nat) := [(⟨"GoalLifts", "allThereInWithout", "(I)I"⟩, 3), (⟨"GoalLiftsModel", "acts", "()V"⟩, 5), (⟨"GoalLiftsModel", "putsCar", "(III)V"⟩, 5), (⟨"GoalLiftsModel", "isCar", "(I)Z"⟩, 5), (⟨"GoalLiftsModel", "ofCar", "(II)I"⟩, 5), (⟨"GoalLiftsModel", "many", "(II)I"⟩, 5), (⟨"GoalLiftsModel", "ofCaller", "(II)I"⟩, 5), (⟨"GoalLiftsModel", "fails", "(I)V"⟩, 5), (⟨"GoalLiftsModel", "isOut", "(II)Z"⟩, 5), (⟨"GoalLiftsModel", "puts", "(III)V"⟩, 5), (⟨"GoalLiftsModel", "inAll", "(I)I"⟩, 5), (⟨"GoalLiftsModel", "gives", "(I)V"⟩, 5), (⟨"GoalLiftsModel", "best", "(II)I"⟩, 5), (⟨"GoalLiftsModel", "canBeGiven", "(III)Z"⟩, 5), (⟨"GoalLiftsModel", "isAwake", "(I)Z"⟩, 5), (⟨"GoalLiftsModel", "hour", "()I"⟩, 5)]
theorem lw_r1 : ∀ q ∈ lw_privs_1, lw_okq q := List.forall_mem_cons.mpr ⟨lw_p0, List.forall_mem_cons.mpr ⟨lw_p1, List.forall_mem_cons.mpr ⟨lw_p2, List.forall_mem_cons.mpr ⟨lw_p3, List.forall_mem_cons.mpr ⟨lw_p4, List.forall_mem_cons.mpr ⟨lw_p5, List.forall_mem_cons.mpr ⟨lw_p6, List.forall_mem_cons.mpr ⟨lw_p7, List.forall_mem_cons.mpr ⟨lw_p8, List.forall_mem_cons.mpr ⟨lw_p9, List.forall_mem_cons.mpr ⟨lw_p10, List.forall_mem_cons.mpr ⟨lw_p11, List.forall_mem_cons.mpr ⟨lw_p12, List.forall_mem_cons.mpr ⟨lw_p13, List.forall_mem_cons.mpr ⟨lw_p14, List.forall_mem_cons.mpr ⟨lw_p15, fun _ h => absurd h List.not_mem_nil⟩⟩⟩⟩⟩⟩⟩⟩⟩⟩⟩⟩⟩⟩⟩⟩
theorem lw_p16 : lw_okq (⟨"GoalLiftsModel", "costOf", "(III)I"⟩, 5) := ⟨⟨by decide +kernel, by decide +kernel⟩, List.mem_of_getElem? (i := 433) (by decide +kernel), List.mem_of_getElem? (i := 548) (by decide +kernel), List.mem_of_getElem? (i := 549) (by decide +kernel)⟩
theorem lw_p17 : lw_okq (⟨"GoalLiftsModel", "stops", "(I)I"⟩, 5) := ⟨⟨by decide +kernel, by decide +kernel⟩, List.mem_of_getElem? (i := 433) (by decide +kernel), List.mem_of_getElem? (i := 552) (by decide +kernel), List.mem_of_getElem? (i := 553) (by decide +kernel)⟩
theorem lw_p18 : lw_okq (⟨"GoalLiftsModel", "ticks", "()V"⟩, 5) := ⟨⟨by decide +kernel, by decide +kernel⟩, List.mem_of_getElem? (i := 433) (by decide +kernel), List.mem_of_getElem? (i := 566) (by decide +kernel), List.mem_of_getElem? (i := 567) (by decide +kernel)⟩
theorem lw_p19 : lw_okq (⟨"GoalLiftsModel", "aim", "(I)I"⟩, 5) := ⟨⟨by decide +kernel, by decide +kernel⟩, List.mem_of_getElem? (i := 433) (by decide +kernel), List.mem_of_getElem? (i := 570) (by decide +kernel), List.mem_of_getElem? (i := 571) (by decide +kernel)⟩
theorem lw_p20 : lw_okq (⟨"GoalLiftsModel", "isStop", "(I)Z"⟩, 5) := ⟨⟨by decide +kernel, by decide +kernel⟩, List.mem_of_getElem? (i := 433) (by decide +kernel), List.mem_of_getElem? (i := 574) (by decide +kernel), List.mem_of_getElem? (i := 575) (by decide +kernel)⟩
theorem lw_p21 : lw_okq (⟨"GoalLiftsModel", "isTaken", "(II)Z"⟩, 5) := ⟨⟨by decide +kernel, by decide +kernel⟩, List.mem_of_getElem? (i := 433) (by decide +kernel), List.mem_of_getElem? (i := 578) (by decide +kernel), List.mem_of_getElem? (i := 579) (by decide +kernel)⟩
theorem lw_p22 : lw_okq (⟨"GoalLiftsModel", "stopsNow", "(I)V"⟩, 5) := ⟨⟨by decide +kernel, by decide +kernel⟩, List.mem_of_getElem? (i := 433) (by decide +kernel), List.mem_of_getElem? (i := 582) (by decide +kernel), List.mem_of_getElem? (i := 583) (by decide +kernel)⟩
theorem lw_p23 : lw_okq (⟨"GoalLiftsModel", "groups", "()I"⟩, 5) := ⟨⟨by decide +kernel, by decide +kernel⟩, List.mem_of_getElem? (i := 433) (by decide +kernel), List.mem_of_getElem? (i := 594) (by decide +kernel), List.mem_of_getElem? (i := 595) (by decide +kernel)⟩
theorem lw_p24 : lw_okq (⟨"GoalLiftsModel", "isFirst", "(I)Z"⟩, 5) := ⟨⟨by decide +kernel, by decide +kernel⟩, List.mem_of_getElem? (i := 433) (by decide +kernel), List.mem_of_getElem? (i := 598) (by decide +kernel), List.mem_of_getElem? (i := 599) (by decide +kernel)⟩
theorem lw_p25 : lw_okq (⟨"GoalLiftsModel", "isOpen", "(I)Z"⟩, 5) := ⟨⟨by decide +kernel, by decide +kernel⟩, List.mem_of_getElem? (i := 433) (by decide +kernel), List.mem_of_getElem? (i := 602) (by decide +kernel), List.mem_of_getElem? (i := 603) (by decide +kernel)⟩
theorem lw_p26 : lw_okq (⟨"GoalLiftsModel", "areOne", "(II)Z"⟩, 5) := ⟨⟨by decide +kernel, by decide +kernel⟩, List.mem_of_getElem? (i := 433) (by decide +kernel), List.mem_of_getElem? (i := 606) (by decide +kernel), List.mem_of_getElem? (i := 607) (by decide +kernel)⟩
theorem lw_p27 : lw_okq (⟨"GoalLiftsModel", "sumOfCars", "(II)I"⟩, 5) := ⟨⟨by decide +kernel, by decide +kernel⟩, List.mem_of_getElem? (i := 433) (by decide +kernel), List.mem_of_getElem? (i := 610) (by decide +kernel), List.mem_of_getElem? (i := 611) (by decide +kernel)⟩
theorem lw_p28 : lw_okq (⟨"GoalLiftsModel", "isCaller", "(I)Z"⟩, 5) := ⟨⟨by decide +kernel, by decide +kernel⟩, List.mem_of_getElem? (i := 433) (by decide +kernel), List.mem_of_getElem? (i := 622) (by decide +kernel), List.mem_of_getElem? (i := 623) (by decide +kernel)⟩
theorem lw_p29 : lw_okq (⟨"GoalLiftsModel", "waited", "(I)I"⟩, 5) := ⟨⟨by decide +kernel, by decide +kernel⟩, List.mem_of_getElem? (i := 433) (by decide +kernel), List.mem_of_getElem? (i := 649) (by decide +kernel), List.mem_of_getElem? (i := 650) (by decide +kernel)⟩
theorem lw_p30 : lw_okq (⟨"GoalLiftsModel", "allThere", "()I"⟩, 5) := ⟨⟨by decide +kernel, by decide +kernel⟩, List.mem_of_getElem? (i := 433) (by decide +kernel), List.mem_of_getElem? (i := 657) (by decide +kernel), List.mem_of_getElem? (i := 658) (by decide +kernel)⟩
def lw_privs_2 : List (MethodName × Nat) := [(⟨"GoalLiftsModel", "costOf", "(III)I"⟩, 5), (⟨"GoalLiftsModel", "stops", "(I)I"⟩, 5), (⟨"GoalLiftsModel", "ticks", "()V"⟩, 5), (⟨"GoalLiftsModel", "aim", "(I)I"⟩, 5), (⟨"GoalLiftsModel", "isStop", "(I)Z"⟩, 5), (⟨"GoalLiftsModel", "isTaken", "(II)Z"⟩, 5), (⟨"GoalLiftsModel", "stopsNow", "(I)V"⟩, 5), (⟨"GoalLiftsModel", "groups", "()I"⟩, 5), (⟨"GoalLiftsModel", "isFirst", "(I)Z"⟩, 5), (⟨"GoalLiftsModel", "isOpen", "(I)Z"⟩, 5), (⟨"GoalLiftsModel", "areOne", "(II)Z"⟩, 5), (⟨"GoalLiftsModel", "sumOfCars", "(II)I"⟩, 5), (⟨"GoalLiftsModel", "isCaller", "(I)Z"⟩, 5), (⟨"GoalLiftsModel", "waited", "(I)I"⟩, 5), (⟨"GoalLiftsModel", "allThere", "()I"⟩, 5)]
theorem lw_r2 : ∀ q ∈ lw_privs_2, lw_okq q := List.forall_mem_cons.mpr ⟨lw_p16, List.forall_mem_cons.mpr ⟨lw_p17, List.forall_mem_cons.mpr ⟨lw_p18, List.forall_mem_cons.mpr ⟨lw_p19, List.forall_mem_cons.mpr ⟨lw_p20, List.forall_mem_cons.mpr ⟨lw_p21, List.forall_mem_cons.mpr ⟨lw_p22, List.forall_mem_cons.mpr ⟨lw_p23, List.forall_mem_cons.mpr ⟨lw_p24, List.forall_mem_cons.mpr ⟨lw_p25, List.forall_mem_cons.mpr ⟨lw_p26, List.forall_mem_cons.mpr ⟨lw_p27, List.forall_mem_cons.mpr ⟨lw_p28, List.forall_mem_cons.mpr ⟨lw_p29, List.forall_mem_cons.mpr ⟨lw_p30, fun _ h => absurd h List.not_mem_nil⟩⟩⟩⟩⟩⟩⟩⟩⟩⟩⟩⟩⟩⟩⟩
def lw_privs : List (MethodName × Nat) := lw_privs_1 ++ (lw_privs_2)
def lw_tbl : List Cond := k2_sels lw_privs ++ tables_1
theorem lw_privs_ok : ∀ q ∈ lw_privs, lw_okq q := by
  show ∀ q ∈ lw_privs_1 ++ (lw_privs_2), lw_okq q
  exact List.forall_mem_append.mpr ⟨lw_r1, lw_r2⟩
-- ===== end of PART A; then your names; then what follows =====
end
section
/-! ===== BEGIN words of one list among another's, by their places ===== -/
theorem goodIn_r {big : List Cond} (ws : List Cond) (ps : List Nat) (hp : ws = ps.filterMap (fun i => big[i]?)) (h : ws.all goodWord = true) : GoodIn big ws := by
  intro w hw
  have h1 := List.all_eq_true.mp h w hw
  rw [hp] at hw
  obtain ⟨i, -, hi⟩ := List.mem_filterMap.mp hw
  have hm : w ∈ big := by first | exact List.mem_of_getElem? hi | exact List.getElem?_mem hi
  exact ⟨hm, good_of_word h1⟩
theorem goodIn_app {big a b : List Cond} (ha : GoodIn big a) (hb : GoodIn big b) : GoodIn big (a ++ b) := fun w h => (List.mem_append.mp h).elim (ha w) (hb w)
theorem goodIn_ca {big a b : List Cond} {c : Cond} (ha : GoodIn big (c :: a)) (hb : GoodIn big b) : GoodIn big (c :: (a ++ b)) := fun w h => (List.mem_cons.mp h).elim (fun e => ha w (List.mem_cons.mpr (Or.inl e))) (fun h => (List.mem_append.mp h).elim (fun h => ha w (List.mem_cons.mpr (Or.inr h))) (hb w))
theorem goodIn_sub {big ws : List Cond} (hm : ∀ w ∈ ws, w ∈ big) (h : ws.all goodWord = true) : GoodIn big ws := fun w hw => ⟨hm w hw, good_of_word (List.all_eq_true.mp h w hw)⟩
/-! ===== END ===== -/

/-! ===== BEGIN printed: names, fields, word lists, decode rows ===== -/
def RX0 : String := "GoalLifts$Callers"
def TX0 : u_T := fun k => match k with
  | 0 => ("GoalLifts$Callers", "count", "I", false)
  | 1 => ("GoalLifts$Callers", "floor", "[I", true)
  | 2 => ("GoalLifts$Callers", "goal", "[I", true)
  | 3 => ("GoalLifts$Callers", "phase", "[I", true)
  | 4 => ("GoalLifts$Callers", "given", "[I", true)
  | 5 => ("GoalLifts$Callers", "calledAt", "[I", true)
  | 6 => ("GoalLifts$Callers", "rodeAt", "[I", true)
  | 7 => ("GoalLifts$Callers", "thereAt", "[I", true)
  | _ => ("GoalLifts$Callers", "timesGiven", "[I", true)
def tyX0 : Nat → FieldType := fun k => match k with
  | 0 => .int
  | 1 => .array .int
  | 2 => .array .int
  | 3 => .array .int
  | 4 => .array .int
  | 5 => .array .int
  | 6 => .array .int
  | 7 => .array .int
  | _ => .array .int
abbrev wsX00 : List Cond := u_ws RX0 TX0 9
theorem nmX0 : ∀ a, a < 9 → ∀ b, b < 9 → a ≠ b → (TX0 a).2.1 ≠ (TX0 b).2.1 := by decide +kernel
theorem tyX0_ok : ∀ k, k < 9 → parseFieldDescriptor (TX0 k).2.2.1 = some (tyX0 k) := by decide +kernel
abbrev cX0_init : ByteArray := prog_2_method_1_code
def yX0_init : MethodName := ⟨RX0, "<init>", "()V"⟩
abbrev cX0_copyFrom : ByteArray := prog_2_method_2_code
def yX0_copyFrom : MethodName := ⟨RX0, "copyFrom", "(LGoalLifts$Callers;)V"⟩
abbrev cX0_has : ByteArray := prog_2_method_3_code
def yX0_has : MethodName := ⟨RX0, "has", "(I)Z"⟩
abbrev cX0_add : ByteArray := prog_2_method_4_code
def yX0_add : MethodName := ⟨RX0, "add", "(III)I"⟩
abbrev cX0_give : ByteArray := prog_2_method_5_code
def yX0_give : MethodName := ⟨RX0, "give", "(II)V"⟩
abbrev cX0_rides : ByteArray := prog_2_method_6_code
def yX0_rides : MethodName := ⟨RX0, "rides", "(II)Z"⟩
abbrev cX0_waitsFor : ByteArray := prog_2_method_7_code
def yX0_waitsFor : MethodName := ⟨RX0, "waitsFor", "(II)Z"⟩
abbrev cX0_numberIn : ByteArray := prog_2_method_8_code
def yX0_numberIn : MethodName := ⟨RX0, "numberIn", "(I)I"⟩
abbrev cX0_numberOf : ByteArray := prog_2_method_9_code
def yX0_numberOf : MethodName := ⟨RX0, "numberOf", "(II)I"⟩
abbrev cX0_numberWith : ByteArray := prog_2_method_10_code
def yX0_numberWith : MethodName := ⟨RX0, "numberWith", "(I)I"⟩
abbrev cX0_stopsOf : ByteArray := prog_2_method_11_code
def yX0_stopsOf : MethodName := ⟨RX0, "stopsOf", "(I)I"⟩
abbrev cX0_aimOf : ByteArray := prog_2_method_12_code
def yX0_aimOf : MethodName := ⟨RX0, "aimOf", "(II)I"⟩
abbrev cX0_isNearer : ByteArray := prog_2_method_13_code
def yX0_isNearer : MethodName := ⟨RX0, "isNearer", "(III)Z"⟩
abbrev cX0_letOut : ByteArray := prog_2_method_14_code
def yX0_letOut : MethodName := ⟨RX0, "letOut", "(III)I"⟩
abbrev cX0_takeIn : ByteArray := prog_2_method_15_code
def yX0_takeIn : MethodName := ⟨RX0, "takeIn", "(IIII)I"⟩
abbrev cX0_loseCar : ByteArray := prog_2_method_16_code
def yX0_loseCar : MethodName := ⟨RX0, "loseCar", "(III)V"⟩
abbrev cX0_waitOf : ByteArray := prog_2_method_17_code
def yX0_waitOf : MethodName := ⟨RX0, "waitOf", "(II)I"⟩
abbrev cX0_isInGroup : ByteArray := prog_2_method_18_code
def yX0_isInGroup : MethodName := ⟨RX0, "isInGroup", "(I)Z"⟩
abbrev cX0_sameGroup : ByteArray := prog_2_method_19_code
def yX0_sameGroup : MethodName := ⟨RX0, "sameGroup", "(II)Z"⟩
abbrev cX0_isFirstOfGroup : ByteArray := prog_2_method_20_code
def yX0_isFirstOfGroup : MethodName := ⟨RX0, "isFirstOfGroup", "(I)Z"⟩
abbrev cX0_numberOfGroups : ByteArray := prog_2_method_21_code
def yX0_numberOfGroups : MethodName := ⟨RX0, "numberOfGroups", "()I"⟩
abbrev cX0_firstOfGroup : ByteArray := prog_2_method_22_code
def yX0_firstOfGroup : MethodName := ⟨RX0, "firstOfGroup", "(I)I"⟩
abbrev cX0_sizeOfGroup : ByteArray := prog_2_method_23_code
def yX0_sizeOfGroup : MethodName := ⟨RX0, "sizeOfGroup", "(I)I"⟩
def RX1 : String := "GoalLifts$Cars"
def TX1 : u_T := fun k => match k with
  | 0 => ("GoalLifts$Cars", "count", "I", false)
  | 1 => ("GoalLifts$Cars", "stopsMade", "I", false)
  | 2 => ("GoalLifts$Cars", "lowest", "[I", true)
  | 3 => ("GoalLifts$Cars", "highest", "[I", true)
  | 4 => ("GoalLifts$Cars", "places", "[I", true)
  | 5 => ("GoalLifts$Cars", "floor", "[I", true)
  | 6 => ("GoalLifts$Cars", "state", "[I", true)
  | _ => ("GoalLifts$Cars", "travelled", "[I", true)
def tyX1 : Nat → FieldType := fun k => match k with
  | 0 => .int
  | 1 => .int
  | 2 => .array .int
  | 3 => .array .int
  | 4 => .array .int
  | 5 => .array .int
  | 6 => .array .int
  | _ => .array .int
abbrev wsX10 : List Cond := u_ws RX1 TX1 8
theorem nmX1 : ∀ a, a < 8 → ∀ b, b < 8 → a ≠ b → (TX1 a).2.1 ≠ (TX1 b).2.1 := by decide +kernel
theorem tyX1_ok : ∀ k, k < 8 → parseFieldDescriptor (TX1 k).2.2.1 = some (tyX1 k) := by decide +kernel
abbrev cX1_init : ByteArray := prog_3_method_1_code
def yX1_init : MethodName := ⟨RX1, "<init>", "()V"⟩
abbrev cX1_copyFrom : ByteArray := prog_3_method_2_code
def yX1_copyFrom : MethodName := ⟨RX1, "copyFrom", "(LGoalLifts$Cars;)V"⟩
abbrev cX1_has : ByteArray := prog_3_method_3_code
def yX1_has : MethodName := ⟨RX1, "has", "(I)Z"⟩
abbrev cX1_add : ByteArray := prog_3_method_4_code
def yX1_add : MethodName := ⟨RX1, "add", "(III)I"⟩
abbrev cX1_serves : ByteArray := prog_3_method_5_code
def yX1_serves : MethodName := ⟨RX1, "serves", "(II)Z"⟩
abbrev cX1_travelTowards : ByteArray := prog_3_method_6_code
def yX1_travelTowards : MethodName := ⟨RX1, "travelTowards", "(II)V"⟩
abbrev cX1_numberIn : ByteArray := prog_3_method_7_code
def yX1_numberIn : MethodName := ⟨RX1, "numberIn", "(I)I"⟩
abbrev cX1_travelledByAll : ByteArray := prog_3_method_8_code
def yX1_travelledByAll : MethodName := ⟨RX1, "travelledByAll", "()I"⟩
def RX2 : String := "GoalLifts$History"
def TX2 : u_T := fun k => match k with
  | 0 => ("GoalLifts$History", "count", "I", false)
  | 1 => ("GoalLifts$History", "next", "I", false)
  | _ => ("GoalLifts$History", "states", "[LGoalLifts$House;", true)
def tyX2 : Nat → FieldType := fun k => match k with
  | 0 => .int
  | 1 => .int
  | _ => .array (.object "GoalLifts$House")
abbrev wsX20 : List Cond := u_ws RX2 TX2 3
theorem nmX2 : ∀ a, a < 3 → ∀ b, b < 3 → a ≠ b → (TX2 a).2.1 ≠ (TX2 b).2.1 := by decide +kernel
theorem tyX2_ok : ∀ k, k < 3 → parseFieldDescriptor (TX2 k).2.2.1 = some (tyX2 k) := by decide +kernel
abbrev cX2_init : ByteArray := prog_4_method_1_code
def yX2_init : MethodName := ⟨RX2, "<init>", "()V"⟩
abbrev cX2_keep : ByteArray := prog_4_method_2_code
def yX2_keep : MethodName := ⟨RX2, "keep", "(LGoalLifts$House;)V"⟩
abbrev cX2_restore : ByteArray := prog_4_method_3_code
def yX2_restore : MethodName := ⟨RX2, "restore", "(LGoalLifts$House;)V"⟩
def RX3 : String := "GoalLifts$House"
def TX3 : u_T := fun k => match k with
  | 0 => ("GoalLifts$House", "tick", "I", false)
  | 1 => ("GoalLifts$House", "awake", "[I", true)
  | 2 => ("GoalLifts$House", "cars", "LGoalLifts$Cars;", true)
  | _ => ("GoalLifts$House", "callers", "LGoalLifts$Callers;", true)
def tyX3 : Nat → FieldType := fun k => match k with
  | 0 => .int
  | 1 => .array .int
  | 2 => .object "GoalLifts$Cars"
  | _ => .object "GoalLifts$Callers"
abbrev wsX30 : List Cond := u_ws RX3 TX3 4
theorem nmX3 : ∀ a, a < 4 → ∀ b, b < 4 → a ≠ b → (TX3 a).2.1 ≠ (TX3 b).2.1 := by decide +kernel
theorem tyX3_ok : ∀ k, k < 4 → parseFieldDescriptor (TX3 k).2.2.1 = some (tyX3 k) := by decide +kernel
abbrev cX3_init : ByteArray := prog_5_method_1_code
def yX3_init : MethodName := ⟨RX3, "<init>", "()V"⟩
abbrev cX3_copyFrom : ByteArray := prog_5_method_2_code
def yX3_copyFrom : MethodName := ⟨RX3, "copyFrom", "(LGoalLifts$House;)V"⟩
abbrev cX3_hour : ByteArray := prog_5_method_3_code
def yX3_hour : MethodName := ⟨RX3, "hour", "()I"⟩
abbrev cX3_isAwake : ByteArray := prog_5_method_4_code
def yX3_isAwake : MethodName := ⟨RX3, "isAwake", "(I)Z"⟩
abbrev cX3_canBeGiven : ByteArray := prog_5_method_5_code
def yX3_canBeGiven : MethodName := ⟨RX3, "canBeGiven", "(III)Z"⟩
abbrev cX3_costOf : ByteArray := prog_5_method_6_code
def yX3_costOf : MethodName := ⟨RX3, "costOf", "(III)I"⟩
abbrev cX3_bestCar : ByteArray := prog_5_method_7_code
def yX3_bestCar : MethodName := ⟨RX3, "bestCar", "(II)I"⟩
abbrev cX3_oneTick : ByteArray := prog_5_method_8_code
def yX3_oneTick : MethodName := ⟨RX3, "oneTick", "()V"⟩
abbrev cX3_stopOrTravel : ByteArray := prog_5_method_9_code
def yX3_stopOrTravel : MethodName := ⟨RX3, "stopOrTravel", "(I)V"⟩
abbrev cX3_breakCar : ByteArray := prog_5_method_10_code
def yX3_breakCar : MethodName := ⟨RX3, "breakCar", "(I)V"⟩
def RX4 : String := "GoalLifts"
def TX4 : u_T := fun k => match k with
  | 0 => ("GoalLifts", "house", "LGoalLifts$House;", true)
  | 1 => ("GoalLifts", "forecast", "LGoalLifts$House;", true)
  | _ => ("GoalLifts", "history", "LGoalLifts$History;", true)
def tyX4 : Nat → FieldType := fun k => match k with
  | 0 => .object "GoalLifts$House"
  | 1 => .object "GoalLifts$House"
  | _ => .object "GoalLifts$History"
abbrev wsX40 : List Cond := u_ws RX4 TX4 3
theorem nmX4 : ∀ a, a < 3 → ∀ b, b < 3 → a ≠ b → (TX4 a).2.1 ≠ (TX4 b).2.1 := by decide +kernel
theorem tyX4_ok : ∀ k, k < 3 → parseFieldDescriptor (TX4 k).2.2.1 = some (tyX4 k) := by decide +kernel
abbrev cX4_init : ByteArray := prog_1_method_1_code
def yX4_init : MethodName := ⟨RX4, "<init>", "()V"⟩
abbrev cX4_addCar : ByteArray := prog_1_method_2_code
def yX4_addCar : MethodName := ⟨RX4, "addCar", "(III)I"⟩
abbrev cX4_setAwake : ByteArray := prog_1_method_3_code
def yX4_setAwake : MethodName := ⟨RX4, "setAwake", "(II)I"⟩
abbrev cX4_hold : ByteArray := prog_1_method_4_code
def yX4_hold : MethodName := ⟨RX4, "hold", "(II)I"⟩
abbrev cX4_fail : ByteArray := prog_1_method_5_code
def yX4_fail : MethodName := ⟨RX4, "fail", "(I)I"⟩
abbrev cX4_repair : ByteArray := prog_1_method_6_code
def yX4_repair : MethodName := ⟨RX4, "repair", "(I)I"⟩
abbrev cX4_call : ByteArray := prog_1_method_7_code
def yX4_call : MethodName := ⟨RX4, "call", "(II)I"⟩
abbrev cX4_pass : ByteArray := prog_1_method_8_code
def yX4_pass : MethodName := ⟨RX4, "pass", "(I)I"⟩
abbrev cX4_undo : ByteArray := prog_1_method_9_code
def yX4_undo : MethodName := ⟨RX4, "undo", "()I"⟩
abbrev cX4_count : ByteArray := prog_1_method_10_code
def yX4_count : MethodName := ⟨RX4, "count", "(I)I"⟩
abbrev cX4_car : ByteArray := prog_1_method_11_code
def yX4_car : MethodName := ⟨RX4, "car", "(II)I"⟩
abbrev cX4_caller : ByteArray := prog_1_method_12_code
def yX4_caller : MethodName := ⟨RX4, "caller", "(II)I"⟩
abbrev cX4_group : ByteArray := prog_1_method_13_code
def yX4_group : MethodName := ⟨RX4, "group", "(II)I"⟩
abbrev cX4_cost : ByteArray := prog_1_method_14_code
def yX4_cost : MethodName := ⟨RX4, "cost", "(III)I"⟩
abbrev cX4_would : ByteArray := prog_1_method_15_code
def yX4_would : MethodName := ⟨RX4, "would", "(II)I"⟩
abbrev cX4_thereIn : ByteArray := prog_1_method_16_code
def yX4_thereIn : MethodName := ⟨RX4, "thereIn", "(I)I"⟩
abbrev cX4_waits : ByteArray := prog_1_method_17_code
def yX4_waits : MethodName := ⟨RX4, "waits", "(I)I"⟩
abbrev cX4_worstCar : ByteArray := prog_1_method_18_code
def yX4_worstCar : MethodName := ⟨RX4, "worstCar", "(I)I"⟩
abbrev cX4_isFloor : ByteArray := prog_1_method_19_code
def yX4_isFloor : MethodName := ⟨RX4, "isFloor", "(I)Z"⟩
abbrev cX4_isWay : ByteArray := prog_1_method_20_code
def yX4_isWay : MethodName := ⟨RX4, "isWay", "(II)Z"⟩
abbrev cX4_allThereInWithout : ByteArray := prog_1_method_21_code
def yX4_allThereInWithout : MethodName := ⟨RX4, "allThereInWithout", "(I)I"⟩
def RX5 : String := "GoalLiftsModel"
def TX5 : u_T := fun k => match k with
  | 0 => ("GoalLiftsModel", "s", "[I", true)
  | 1 => ("GoalLiftsModel", "past", "[I", true)
  | 2 => ("GoalLiftsModel", "held", "[I", true)
  | 3 => ("GoalLiftsModel", "tried", "[I", true)
  | _ => ("GoalLiftsModel", "pasts", "I", false)
def tyX5 : Nat → FieldType := fun k => match k with
  | 0 => .array .int
  | 1 => .array .int
  | 2 => .array .int
  | 3 => .array .int
  | _ => .int
abbrev wsX50 : List Cond := u_ws RX5 TX5 5
theorem nmX5 : ∀ a, a < 5 → ∀ b, b < 5 → a ≠ b → (TX5 a).2.1 ≠ (TX5 b).2.1 := by decide +kernel
theorem tyX5_ok : ∀ k, k < 5 → parseFieldDescriptor (TX5 k).2.2.1 = some (tyX5 k) := by decide +kernel
abbrev cX5_init : ByteArray := prog_7_method_1_code
def yX5_init : MethodName := ⟨RX5, "<init>", "()V"⟩
abbrev cX5_in : ByteArray := prog_7_method_3_code
def yX5_in : MethodName := ⟨RX5, "in", "(III)Z"⟩
abbrev cX5_acts : ByteArray := prog_7_method_4_code
def yX5_acts : MethodName := ⟨RX5, "acts", "()V"⟩
abbrev cX5_copies : ByteArray := prog_7_method_5_code
def yX5_copies : MethodName := ⟨RX5, "copies", "([I[I)V"⟩
abbrev cX5_isCar : ByteArray := prog_7_method_6_code
def yX5_isCar : MethodName := ⟨RX5, "isCar", "(I)Z"⟩
abbrev cX5_isCaller : ByteArray := prog_7_method_7_code
def yX5_isCaller : MethodName := ⟨RX5, "isCaller", "(I)Z"⟩
abbrev cX5_isFloor : ByteArray := prog_7_method_8_code
def yX5_isFloor : MethodName := ⟨RX5, "isFloor", "(I)Z"⟩
abbrev cX5_ofCar : ByteArray := prog_7_method_9_code
def yX5_ofCar : MethodName := ⟨RX5, "ofCar", "(II)I"⟩
abbrev cX5_putsCar : ByteArray := prog_7_method_10_code
def yX5_putsCar : MethodName := ⟨RX5, "putsCar", "(III)V"⟩
abbrev cX5_ofCaller : ByteArray := prog_7_method_11_code
def yX5_ofCaller : MethodName := ⟨RX5, "ofCaller", "(II)I"⟩
abbrev cX5_puts : ByteArray := prog_7_method_12_code
def yX5_puts : MethodName := ⟨RX5, "puts", "(III)V"⟩
abbrev cX5_hour : ByteArray := prog_7_method_13_code
def yX5_hour : MethodName := ⟨RX5, "hour", "()I"⟩
abbrev cX5_isAwake : ByteArray := prog_7_method_14_code
def yX5_isAwake : MethodName := ⟨RX5, "isAwake", "(I)Z"⟩
abbrev cX5_many : ByteArray := prog_7_method_15_code
def yX5_many : MethodName := ⟨RX5, "many", "(II)I"⟩
abbrev cX5_inAll : ByteArray := prog_7_method_16_code
def yX5_inAll : MethodName := ⟨RX5, "inAll", "(I)I"⟩
abbrev cX5_stops : ByteArray := prog_7_method_17_code
def yX5_stops : MethodName := ⟨RX5, "stops", "(I)I"⟩
abbrev cX5_ones : ByteArray := prog_7_method_18_code
def yX5_ones : MethodName := ⟨RX5, "ones", "(I)I"⟩
abbrev cX5_far : ByteArray := prog_7_method_19_code
def yX5_far : MethodName := ⟨RX5, "far", "(II)I"⟩
abbrev cX5_canBeGiven : ByteArray := prog_7_method_20_code
def yX5_canBeGiven : MethodName := ⟨RX5, "canBeGiven", "(III)Z"⟩
abbrev cX5_costOf : ByteArray := prog_7_method_21_code
def yX5_costOf : MethodName := ⟨RX5, "costOf", "(III)I"⟩
abbrev cX5_best : ByteArray := prog_7_method_22_code
def yX5_best : MethodName := ⟨RX5, "best", "(II)I"⟩
abbrev cX5_gives : ByteArray := prog_7_method_23_code
def yX5_gives : MethodName := ⟨RX5, "gives", "(I)V"⟩
abbrev cX5_aim : ByteArray := prog_7_method_24_code
def yX5_aim : MethodName := ⟨RX5, "aim", "(I)I"⟩
abbrev cX5_isOut : ByteArray := prog_7_method_25_code
def yX5_isOut : MethodName := ⟨RX5, "isOut", "(II)Z"⟩
abbrev cX5_isTaken : ByteArray := prog_7_method_26_code
def yX5_isTaken : MethodName := ⟨RX5, "isTaken", "(II)Z"⟩
abbrev cX5_isStop : ByteArray := prog_7_method_27_code
def yX5_isStop : MethodName := ⟨RX5, "isStop", "(I)Z"⟩
abbrev cX5_stopsNow : ByteArray := prog_7_method_28_code
def yX5_stopsNow : MethodName := ⟨RX5, "stopsNow", "(I)V"⟩
abbrev cX5_ticks : ByteArray := prog_7_method_29_code
def yX5_ticks : MethodName := ⟨RX5, "ticks", "()V"⟩
abbrev cX5_fails : ByteArray := prog_7_method_30_code
def yX5_fails : MethodName := ⟨RX5, "fails", "(I)V"⟩
abbrev cX5_addCar : ByteArray := prog_7_method_31_code
def yX5_addCar : MethodName := ⟨RX5, "addCar", "(III)I"⟩
abbrev cX5_setAwake : ByteArray := prog_7_method_32_code
def yX5_setAwake : MethodName := ⟨RX5, "setAwake", "(II)I"⟩
abbrev cX5_hold : ByteArray := prog_7_method_33_code
def yX5_hold : MethodName := ⟨RX5, "hold", "(II)I"⟩
abbrev cX5_fail : ByteArray := prog_7_method_34_code
def yX5_fail : MethodName := ⟨RX5, "fail", "(I)I"⟩
abbrev cX5_repair : ByteArray := prog_7_method_35_code
def yX5_repair : MethodName := ⟨RX5, "repair", "(I)I"⟩
abbrev cX5_isWay : ByteArray := prog_7_method_36_code
def yX5_isWay : MethodName := ⟨RX5, "isWay", "(II)Z"⟩
abbrev cX5_call : ByteArray := prog_7_method_37_code
def yX5_call : MethodName := ⟨RX5, "call", "(II)I"⟩
abbrev cX5_pass : ByteArray := prog_7_method_38_code
def yX5_pass : MethodName := ⟨RX5, "pass", "(I)I"⟩
abbrev cX5_undo : ByteArray := prog_7_method_39_code
def yX5_undo : MethodName := ⟨RX5, "undo", "()I"⟩
abbrev cX5_isOpen : ByteArray := prog_7_method_40_code
def yX5_isOpen : MethodName := ⟨RX5, "isOpen", "(I)Z"⟩
abbrev cX5_isFirst : ByteArray := prog_7_method_41_code
def yX5_isFirst : MethodName := ⟨RX5, "isFirst", "(I)Z"⟩
abbrev cX5_areOne : ByteArray := prog_7_method_42_code
def yX5_areOne : MethodName := ⟨RX5, "areOne", "(II)Z"⟩
abbrev cX5_groups : ByteArray := prog_7_method_43_code
def yX5_groups : MethodName := ⟨RX5, "groups", "()I"⟩
abbrev cX5_sumOfCars : ByteArray := prog_7_method_44_code
def yX5_sumOfCars : MethodName := ⟨RX5, "sumOfCars", "(II)I"⟩
abbrev cX5_count : ByteArray := prog_7_method_45_code
def yX5_count : MethodName := ⟨RX5, "count", "(I)I"⟩
abbrev cX5_car : ByteArray := prog_7_method_46_code
def yX5_car : MethodName := ⟨RX5, "car", "(II)I"⟩
abbrev cX5_caller : ByteArray := prog_7_method_47_code
def yX5_caller : MethodName := ⟨RX5, "caller", "(II)I"⟩
abbrev cX5_group : ByteArray := prog_7_method_48_code
def yX5_group : MethodName := ⟨RX5, "group", "(II)I"⟩
abbrev cX5_cost : ByteArray := prog_7_method_49_code
def yX5_cost : MethodName := ⟨RX5, "cost", "(III)I"⟩
abbrev cX5_would : ByteArray := prog_7_method_50_code
def yX5_would : MethodName := ⟨RX5, "would", "(II)I"⟩
abbrev cX5_thereIn : ByteArray := prog_7_method_51_code
def yX5_thereIn : MethodName := ⟨RX5, "thereIn", "(I)I"⟩
abbrev cX5_waited : ByteArray := prog_7_method_52_code
def yX5_waited : MethodName := ⟨RX5, "waited", "(I)I"⟩
abbrev cX5_waits : ByteArray := prog_7_method_53_code
def yX5_waits : MethodName := ⟨RX5, "waits", "(I)I"⟩
abbrev cX5_allThere : ByteArray := prog_7_method_54_code
def yX5_allThere : MethodName := ⟨RX5, "allThere", "()I"⟩
abbrev cX5_worstCar : ByteArray := prog_7_method_55_code
def yX5_worstCar : MethodName := ⟨RX5, "worstCar", "(I)I"⟩
def RJ6 : String := "java/lang/Integer"
def TJ6 : u_T := fun k => match k with
  | _ => ("", "", "", false)
def tyJ6 : Nat → FieldType := fun k => match k with
  | _ => .int
abbrev wsJ60 : List Cond := u_ws RJ6 TJ6 0
theorem nmJ6 : ∀ a, a < 0 → ∀ b, b < 0 → a ≠ b → (TJ6 a).2.1 ≠ (TJ6 b).2.1 := by decide +kernel
theorem tyJ6_ok : ∀ k, k < 0 → parseFieldDescriptor (TJ6 k).2.2.1 = some (tyJ6 k) := by decide +kernel
abbrev cJ6_bitCount_0f7a4 : ByteArray := prog_8_method_49_code
def yJ6_bitCount_0f7a4 : MethodName := ⟨RJ6, "bitCount", "(I)I"⟩
def RJ9 : String := "java/lang/Math"
def TJ9 : u_T := fun k => match k with
  | _ => ("", "", "", false)
def tyJ9 : Nat → FieldType := fun k => match k with
  | _ => .int
abbrev wsJ90 : List Cond := u_ws RJ9 TJ9 0
theorem nmJ9 : ∀ a, a < 0 → ∀ b, b < 0 → a ≠ b → (TJ9 a).2.1 ≠ (TJ9 b).2.1 := by decide +kernel
theorem tyJ9_ok : ∀ k, k < 0 → parseFieldDescriptor (TJ9 k).2.2.1 = some (tyJ9 k) := by decide +kernel
abbrev cJ9_floorMod_7cf53 : ByteArray := prog_9_method_50_code
def yJ9_floorMod_7cf53 : MethodName := ⟨RJ9, "floorMod", "(II)I"⟩
abbrev cJ9_abs_0f7a4 : ByteArray := prog_9_method_59_code
def yJ9_abs_0f7a4 : MethodName := ⟨RJ9, "abs", "(I)I"⟩
abbrev cJ9_min_7cf53 : ByteArray := prog_9_method_69_code
def yJ9_min_7cf53 : MethodName := ⟨RJ9, "min", "(II)I"⟩
def RJ10 : String := "java/lang/System"
def TJ10 : u_T := fun k => match k with
  | _ => ("", "", "", false)
def tyJ10 : Nat → FieldType := fun k => match k with
  | _ => .int
abbrev wsJ100 : List Cond := u_ws RJ10 TJ10 0
theorem nmJ10 : ∀ a, a < 0 → ∀ b, b < 0 → a ≠ b → (TJ10 a).2.1 ≠ (TJ10 b).2.1 := by decide +kernel
theorem tyJ10_ok : ∀ k, k < 0 → parseFieldDescriptor (TJ10 k).2.2.1 = some (tyJ10 k) := by decide +kernel
def RL : String := "GoalLiftsLaw"
abbrev cL_law : ByteArray := code
def yL_law : MethodName := ⟨RL, "law", "([I)Z"⟩
def wsX0_init : List Cond := .code yX0_init cX0_init 1 none :: ([.methodLink RX0 3 objectInit, .instanceMethod objectInit, .code objectInit ⟨#[0xb1]⟩ 1 none, .arrayClass .int, .fieldLink RX0 9 "GoalLifts$Callers" "floor" "[I", .fieldLink RX0 15 "GoalLifts$Callers" "goal" "[I", .fieldLink RX0 18 "GoalLifts$Callers" "phase" "[I", .fieldLink RX0 21 "GoalLifts$Callers" "given" "[I", .fieldLink RX0 24 "GoalLifts$Callers" "calledAt" "[I", .fieldLink RX0 27 "GoalLifts$Callers" "rodeAt" "[I", .fieldLink RX0 30 "GoalLifts$Callers" "thereAt" "[I", .fieldLink RX0 33 "GoalLifts$Callers" "timesGiven" "[I"] ++ wsX00)
def wsX0_copyFrom : List Cond := .code yX0_copyFrom cX0_copyFrom 2 none :: ([.fieldLink RX0 36 "GoalLifts$Callers" "count" "I", .fieldLink RX0 9 "GoalLifts$Callers" "floor" "[I", .methodLink RX0 40 arraycopyName, .native arraycopyName, .static arraycopyName, .initialized "java/lang/System", .fieldLink RX0 15 "GoalLifts$Callers" "goal" "[I", .fieldLink RX0 18 "GoalLifts$Callers" "phase" "[I", .fieldLink RX0 21 "GoalLifts$Callers" "given" "[I", .fieldLink RX0 24 "GoalLifts$Callers" "calledAt" "[I", .fieldLink RX0 27 "GoalLifts$Callers" "rodeAt" "[I", .fieldLink RX0 30 "GoalLifts$Callers" "thereAt" "[I", .fieldLink RX0 33 "GoalLifts$Callers" "timesGiven" "[I"] ++ wsX00)
def wsX0_has : List Cond := .code yX0_has cX0_has 2 (some .boolean) :: ([.fieldLink RX0 36 "GoalLifts$Callers" "count" "I"] ++ wsX00)
def wsX0_add : List Cond := .code yX0_add cX0_add 5 (some .int) :: ([.fieldLink RX0 36 "GoalLifts$Callers" "count" "I", .fieldLink RX0 9 "GoalLifts$Callers" "floor" "[I", .fieldLink RX0 15 "GoalLifts$Callers" "goal" "[I", .fieldLink RX0 18 "GoalLifts$Callers" "phase" "[I", .fieldLink RX0 21 "GoalLifts$Callers" "given" "[I", .fieldLink RX0 24 "GoalLifts$Callers" "calledAt" "[I", .fieldLink RX0 27 "GoalLifts$Callers" "rodeAt" "[I", .fieldLink RX0 30 "GoalLifts$Callers" "thereAt" "[I", .fieldLink RX0 33 "GoalLifts$Callers" "timesGiven" "[I"] ++ wsX00)
def wsX0_give : List Cond := .code yX0_give cX0_give 3 none :: ([.fieldLink RX0 18 "GoalLifts$Callers" "phase" "[I", .fieldLink RX0 21 "GoalLifts$Callers" "given" "[I", .fieldLink RX0 33 "GoalLifts$Callers" "timesGiven" "[I", .methodLink RX0 46 yX0_has, .instanceMethod yX0_has, .selects RX0 yX0_has yX0_has, .initialized RX0, .code yX0_has cX0_has 2 (some .boolean), .fieldLink RX0 36 "GoalLifts$Callers" "count" "I"] ++ wsX00)
def wsX0_rides : List Cond := .code yX0_rides cX0_rides 3 (some .boolean) :: ([.fieldLink RX0 18 "GoalLifts$Callers" "phase" "[I", .fieldLink RX0 21 "GoalLifts$Callers" "given" "[I"] ++ wsX00)
def wsX0_waitsFor : List Cond := .code yX0_waitsFor cX0_waitsFor 3 (some .boolean) :: ([.fieldLink RX0 18 "GoalLifts$Callers" "phase" "[I", .fieldLink RX0 21 "GoalLifts$Callers" "given" "[I"] ++ wsX00)
def wsX0_numberIn : List Cond := .code yX0_numberIn cX0_numberIn 4 (some .int) :: ([.fieldLink RX0 36 "GoalLifts$Callers" "count" "I", .fieldLink RX0 18 "GoalLifts$Callers" "phase" "[I"] ++ wsX00)
def wsX0_numberOf : List Cond := .code yX0_numberOf cX0_numberOf 5 (some .int) :: ([.fieldLink RX0 36 "GoalLifts$Callers" "count" "I", .fieldLink RX0 18 "GoalLifts$Callers" "phase" "[I", .fieldLink RX0 21 "GoalLifts$Callers" "given" "[I"] ++ wsX00)
def wsX0_numberWith : List Cond := .code yX0_numberWith cX0_numberWith 2 (some .int) :: ([.methodLink RX0 50 yX0_numberOf, .instanceMethod yX0_numberOf, .selects RX0 yX0_numberOf yX0_numberOf, .initialized RX0, .code yX0_numberOf cX0_numberOf 5 (some .int), .fieldLink RX0 36 "GoalLifts$Callers" "count" "I", .fieldLink RX0 18 "GoalLifts$Callers" "phase" "[I", .fieldLink RX0 21 "GoalLifts$Callers" "given" "[I"] ++ wsX00)
def wsX0_stopsOf : List Cond := .code yX0_stopsOf cX0_stopsOf 4 (some .int) :: ([.fieldLink RX0 36 "GoalLifts$Callers" "count" "I", .fieldLink RX0 9 "GoalLifts$Callers" "floor" "[I", .fieldLink RX0 15 "GoalLifts$Callers" "goal" "[I", .methodLink RX0 54 yX0_waitsFor, .instanceMethod yX0_waitsFor, .selects RX0 yX0_waitsFor yX0_waitsFor, .initialized RX0, .code yX0_waitsFor cX0_waitsFor 3 (some .boolean), .fieldLink RX0 18 "GoalLifts$Callers" "phase" "[I", .fieldLink RX0 21 "GoalLifts$Callers" "given" "[I", .methodLink RX0 58 yX0_rides, .instanceMethod yX0_rides, .selects RX0 yX0_rides yX0_rides, .code yX0_rides cX0_rides 3 (some .boolean)] ++ wsX00)
def wsX0_isNearer : List Cond := .code yX0_isNearer cX0_isNearer 5 (some .boolean) :: ([.methodLink RX0 65 Lib.Math.abs.name, .static Lib.Math.abs.name, .initialized "java/lang/Math", .code Lib.Math.abs.name Lib.Math.abs.code 1 (some .int)])
def wsX0_aimOf : List Cond := .code yX0_aimOf cX0_aimOf 6 (some .int) :: ([.fieldLink RX0 36 "GoalLifts$Callers" "count" "I", .fieldLink RX0 15 "GoalLifts$Callers" "goal" "[I", .fieldLink RX0 9 "GoalLifts$Callers" "floor" "[I", .methodLink RX0 58 yX0_rides, .instanceMethod yX0_rides, .selects RX0 yX0_rides yX0_rides, .initialized RX0, .code yX0_rides cX0_rides 3 (some .boolean), .fieldLink RX0 18 "GoalLifts$Callers" "phase" "[I", .fieldLink RX0 21 "GoalLifts$Callers" "given" "[I", .methodLink RX0 61 yX0_isNearer, .static yX0_isNearer, .code yX0_isNearer cX0_isNearer 5 (some .boolean), .methodLink RX0 65 Lib.Math.abs.name, .static Lib.Math.abs.name, .initialized "java/lang/Math", .code Lib.Math.abs.name Lib.Math.abs.code 1 (some .int), .methodLink RX0 54 yX0_waitsFor, .instanceMethod yX0_waitsFor, .selects RX0 yX0_waitsFor yX0_waitsFor, .code yX0_waitsFor cX0_waitsFor 3 (some .boolean)] ++ wsX00)
def wsX0_letOut : List Cond := .code yX0_letOut cX0_letOut 6 (some .int) :: ([.fieldLink RX0 36 "GoalLifts$Callers" "count" "I", .fieldLink RX0 15 "GoalLifts$Callers" "goal" "[I", .fieldLink RX0 18 "GoalLifts$Callers" "phase" "[I", .fieldLink RX0 30 "GoalLifts$Callers" "thereAt" "[I", .methodLink RX0 58 yX0_rides, .instanceMethod yX0_rides, .selects RX0 yX0_rides yX0_rides, .initialized RX0, .code yX0_rides cX0_rides 3 (some .boolean), .fieldLink RX0 21 "GoalLifts$Callers" "given" "[I"] ++ wsX00)
def wsX0_takeIn : List Cond := .code yX0_takeIn cX0_takeIn 8 (some .int) :: ([.fieldLink RX0 36 "GoalLifts$Callers" "count" "I", .fieldLink RX0 9 "GoalLifts$Callers" "floor" "[I", .fieldLink RX0 18 "GoalLifts$Callers" "phase" "[I", .fieldLink RX0 27 "GoalLifts$Callers" "rodeAt" "[I", .methodLink RX0 50 yX0_numberOf, .instanceMethod yX0_numberOf, .selects RX0 yX0_numberOf yX0_numberOf, .initialized RX0, .code yX0_numberOf cX0_numberOf 5 (some .int), .fieldLink RX0 21 "GoalLifts$Callers" "given" "[I", .methodLink RX0 54 yX0_waitsFor, .instanceMethod yX0_waitsFor, .selects RX0 yX0_waitsFor yX0_waitsFor, .code yX0_waitsFor cX0_waitsFor 3 (some .boolean)] ++ wsX00)
def wsX0_loseCar : List Cond := .code yX0_loseCar cX0_loseCar 6 none :: ([.fieldLink RX0 36 "GoalLifts$Callers" "count" "I", .fieldLink RX0 9 "GoalLifts$Callers" "floor" "[I", .fieldLink RX0 15 "GoalLifts$Callers" "goal" "[I", .fieldLink RX0 18 "GoalLifts$Callers" "phase" "[I", .fieldLink RX0 30 "GoalLifts$Callers" "thereAt" "[I", .fieldLink RX0 21 "GoalLifts$Callers" "given" "[I", .methodLink RX0 58 yX0_rides, .instanceMethod yX0_rides, .selects RX0 yX0_rides yX0_rides, .initialized RX0, .code yX0_rides cX0_rides 3 (some .boolean), .methodLink RX0 54 yX0_waitsFor, .instanceMethod yX0_waitsFor, .selects RX0 yX0_waitsFor yX0_waitsFor, .code yX0_waitsFor cX0_waitsFor 3 (some .boolean)] ++ wsX00)
def wsX0_waitOf : List Cond := .code yX0_waitOf cX0_waitOf 4 (some .int) :: ([.fieldLink RX0 18 "GoalLifts$Callers" "phase" "[I", .fieldLink RX0 27 "GoalLifts$Callers" "rodeAt" "[I", .fieldLink RX0 24 "GoalLifts$Callers" "calledAt" "[I"] ++ wsX00)
def wsX0_isInGroup : List Cond := .code yX0_isInGroup cX0_isInGroup 2 (some .boolean) :: ([.fieldLink RX0 18 "GoalLifts$Callers" "phase" "[I"] ++ wsX00)
def wsX0_sameGroup : List Cond := .code yX0_sameGroup cX0_sameGroup 3 (some .boolean) :: ([.fieldLink RX0 9 "GoalLifts$Callers" "floor" "[I", .fieldLink RX0 15 "GoalLifts$Callers" "goal" "[I", .methodLink RX0 71 yX0_isInGroup, .instanceMethod yX0_isInGroup, .selects RX0 yX0_isInGroup yX0_isInGroup, .initialized RX0, .code yX0_isInGroup cX0_isInGroup 2 (some .boolean), .fieldLink RX0 18 "GoalLifts$Callers" "phase" "[I"] ++ wsX00)
def wsX0_isFirstOfGroup : List Cond := .code yX0_isFirstOfGroup cX0_isFirstOfGroup 3 (some .boolean) :: ([.methodLink RX0 74 yX0_sameGroup, .instanceMethod yX0_sameGroup, .selects RX0 yX0_sameGroup yX0_sameGroup, .initialized RX0, .code yX0_sameGroup cX0_sameGroup 3 (some .boolean), .fieldLink RX0 9 "GoalLifts$Callers" "floor" "[I", .fieldLink RX0 15 "GoalLifts$Callers" "goal" "[I", .methodLink RX0 71 yX0_isInGroup, .instanceMethod yX0_isInGroup, .selects RX0 yX0_isInGroup yX0_isInGroup, .code yX0_isInGroup cX0_isInGroup 2 (some .boolean), .fieldLink RX0 18 "GoalLifts$Callers" "phase" "[I"] ++ wsX00)
def wsX0_numberOfGroups : List Cond := .code yX0_numberOfGroups cX0_numberOfGroups 3 (some .int) :: ([.fieldLink RX0 36 "GoalLifts$Callers" "count" "I", .methodLink RX0 77 yX0_isFirstOfGroup, .instanceMethod yX0_isFirstOfGroup, .selects RX0 yX0_isFirstOfGroup yX0_isFirstOfGroup, .initialized RX0, .code yX0_isFirstOfGroup cX0_isFirstOfGroup 3 (some .boolean), .methodLink RX0 74 yX0_sameGroup, .instanceMethod yX0_sameGroup, .selects RX0 yX0_sameGroup yX0_sameGroup, .code yX0_sameGroup cX0_sameGroup 3 (some .boolean), .fieldLink RX0 9 "GoalLifts$Callers" "floor" "[I", .fieldLink RX0 15 "GoalLifts$Callers" "goal" "[I", .methodLink RX0 71 yX0_isInGroup, .instanceMethod yX0_isInGroup, .selects RX0 yX0_isInGroup yX0_isInGroup, .code yX0_isInGroup cX0_isInGroup 2 (some .boolean), .fieldLink RX0 18 "GoalLifts$Callers" "phase" "[I"] ++ wsX00)
def wsX0_firstOfGroup : List Cond := .code yX0_firstOfGroup cX0_firstOfGroup 4 (some .int) :: ([.fieldLink RX0 36 "GoalLifts$Callers" "count" "I", .methodLink RX0 77 yX0_isFirstOfGroup, .instanceMethod yX0_isFirstOfGroup, .selects RX0 yX0_isFirstOfGroup yX0_isFirstOfGroup, .initialized RX0, .code yX0_isFirstOfGroup cX0_isFirstOfGroup 3 (some .boolean), .methodLink RX0 74 yX0_sameGroup, .instanceMethod yX0_sameGroup, .selects RX0 yX0_sameGroup yX0_sameGroup, .code yX0_sameGroup cX0_sameGroup 3 (some .boolean), .fieldLink RX0 9 "GoalLifts$Callers" "floor" "[I", .fieldLink RX0 15 "GoalLifts$Callers" "goal" "[I", .methodLink RX0 71 yX0_isInGroup, .instanceMethod yX0_isInGroup, .selects RX0 yX0_isInGroup yX0_isInGroup, .code yX0_isInGroup cX0_isInGroup 2 (some .boolean), .fieldLink RX0 18 "GoalLifts$Callers" "phase" "[I"] ++ wsX00)
def wsX0_sizeOfGroup : List Cond := .code yX0_sizeOfGroup cX0_sizeOfGroup 4 (some .int) :: ([.fieldLink RX0 36 "GoalLifts$Callers" "count" "I", .methodLink RX0 74 yX0_sameGroup, .instanceMethod yX0_sameGroup, .selects RX0 yX0_sameGroup yX0_sameGroup, .initialized RX0, .code yX0_sameGroup cX0_sameGroup 3 (some .boolean), .fieldLink RX0 9 "GoalLifts$Callers" "floor" "[I", .fieldLink RX0 15 "GoalLifts$Callers" "goal" "[I", .methodLink RX0 71 yX0_isInGroup, .instanceMethod yX0_isInGroup, .selects RX0 yX0_isInGroup yX0_isInGroup, .code yX0_isInGroup cX0_isInGroup 2 (some .boolean), .fieldLink RX0 18 "GoalLifts$Callers" "phase" "[I"] ++ wsX00)
def wsX1_init : List Cond := .code yX1_init cX1_init 1 none :: ([.methodLink RX1 3 objectInit, .instanceMethod objectInit, .code objectInit ⟨#[0xb1]⟩ 1 none, .arrayClass .int, .fieldLink RX1 9 "GoalLifts$Cars" "lowest" "[I", .fieldLink RX1 15 "GoalLifts$Cars" "highest" "[I", .fieldLink RX1 18 "GoalLifts$Cars" "places" "[I", .fieldLink RX1 21 "GoalLifts$Cars" "floor" "[I", .fieldLink RX1 24 "GoalLifts$Cars" "state" "[I", .fieldLink RX1 27 "GoalLifts$Cars" "travelled" "[I"] ++ wsX10)
def wsX1_copyFrom : List Cond := .code yX1_copyFrom cX1_copyFrom 2 none :: ([.fieldLink RX1 30 "GoalLifts$Cars" "count" "I", .fieldLink RX1 34 "GoalLifts$Cars" "stopsMade" "I", .fieldLink RX1 9 "GoalLifts$Cars" "lowest" "[I", .methodLink RX1 37 arraycopyName, .native arraycopyName, .static arraycopyName, .initialized "java/lang/System", .fieldLink RX1 15 "GoalLifts$Cars" "highest" "[I", .fieldLink RX1 18 "GoalLifts$Cars" "places" "[I", .fieldLink RX1 21 "GoalLifts$Cars" "floor" "[I", .fieldLink RX1 24 "GoalLifts$Cars" "state" "[I", .fieldLink RX1 27 "GoalLifts$Cars" "travelled" "[I"] ++ wsX10)
def wsX1_has : List Cond := .code yX1_has cX1_has 2 (some .boolean) :: ([.fieldLink RX1 30 "GoalLifts$Cars" "count" "I"] ++ wsX10)
def wsX1_add : List Cond := .code yX1_add cX1_add 5 (some .int) :: ([.fieldLink RX1 30 "GoalLifts$Cars" "count" "I", .fieldLink RX1 9 "GoalLifts$Cars" "lowest" "[I", .fieldLink RX1 15 "GoalLifts$Cars" "highest" "[I", .fieldLink RX1 18 "GoalLifts$Cars" "places" "[I", .fieldLink RX1 21 "GoalLifts$Cars" "floor" "[I", .fieldLink RX1 24 "GoalLifts$Cars" "state" "[I", .fieldLink RX1 27 "GoalLifts$Cars" "travelled" "[I"] ++ wsX10)
def wsX1_serves : List Cond := .code yX1_serves cX1_serves 3 (some .boolean) :: ([.fieldLink RX1 9 "GoalLifts$Cars" "lowest" "[I", .fieldLink RX1 15 "GoalLifts$Cars" "highest" "[I"] ++ wsX10)
def wsX1_travelTowards : List Cond := .code yX1_travelTowards cX1_travelTowards 3 none :: ([.fieldLink RX1 21 "GoalLifts$Cars" "floor" "[I", .fieldLink RX1 27 "GoalLifts$Cars" "travelled" "[I"] ++ wsX10)
def wsX1_numberIn : List Cond := .code yX1_numberIn cX1_numberIn 4 (some .int) :: ([.fieldLink RX1 30 "GoalLifts$Cars" "count" "I", .fieldLink RX1 24 "GoalLifts$Cars" "state" "[I"] ++ wsX10)
def wsX1_travelledByAll : List Cond := .code yX1_travelledByAll cX1_travelledByAll 3 (some .int) :: ([.fieldLink RX1 30 "GoalLifts$Cars" "count" "I", .fieldLink RX1 27 "GoalLifts$Cars" "travelled" "[I"] ++ wsX10)
def wsX3_init_r1 : List Cond := [Cond.methodLink RX3 3 objectInit, Cond.instanceMethod objectInit, Cond.code objectInit ⟨#[0xb1]⟩ 1 none, Cond.arrayClass .int, Cond.fieldLink RX3 9 "GoalLifts$House" "awake" "[I", Cond.classLink RX3 15 RX1, Cond.instantiable RX1 8, Cond.initialized RX1, Cond.fieldLink RX3 18 "GoalLifts$House" "cars" "LGoalLifts$Cars;", Cond.classLink RX3 22 RX0, Cond.instantiable RX0 9, Cond.initialized RX0, Cond.fieldLink RX3 25 "GoalLifts$House" "callers" "LGoalLifts$Callers;", Cond.instanceMethod yX1_init, Cond.code yX1_init cX1_init 1 none, Cond.methodLink RX1 3 objectInit, Cond.fieldLink RX1 9 "GoalLifts$Cars" "lowest" "[I", Cond.fieldLink RX1 15 "GoalLifts$Cars" "highest" "[I", Cond.fieldLink RX1 18 "GoalLifts$Cars" "places" "[I", Cond.fieldLink RX1 21 "GoalLifts$Cars" "floor" "[I", Cond.fieldLink RX1 24 "GoalLifts$Cars" "state" "[I", Cond.fieldLink RX1 27 "GoalLifts$Cars" "travelled" "[I", Cond.instanceMethod yX0_init, Cond.code yX0_init cX0_init 1 none]
def wsX3_init_r2 : List Cond := [Cond.methodLink RX0 3 objectInit, Cond.fieldLink RX0 9 "GoalLifts$Callers" "floor" "[I", Cond.fieldLink RX0 15 "GoalLifts$Callers" "goal" "[I", Cond.fieldLink RX0 18 "GoalLifts$Callers" "phase" "[I", Cond.fieldLink RX0 21 "GoalLifts$Callers" "given" "[I", Cond.fieldLink RX0 24 "GoalLifts$Callers" "calledAt" "[I", Cond.fieldLink RX0 27 "GoalLifts$Callers" "rodeAt" "[I", Cond.fieldLink RX0 30 "GoalLifts$Callers" "thereAt" "[I", Cond.fieldLink RX0 33 "GoalLifts$Callers" "timesGiven" "[I"]
def wsX3_init : List Cond := .code yX3_init cX3_init 2 none :: ((wsX3_init_r1 ++ wsX3_init_r2) ++ wsX30 ++ wsX10 ++ wsX00)
def wsX2_init_r1 : List Cond := [Cond.methodLink RX2 3 objectInit, Cond.instanceMethod objectInit, Cond.code objectInit ⟨#[0xb1]⟩ 1 none, Cond.classLink RX2 9 RX3, Cond.fieldLink RX2 11 "GoalLifts$History" "states" "[LGoalLifts$House;", Cond.instantiable RX3 4, Cond.initialized RX3, Cond.methodLink RX2 17 yX3_init, Cond.instanceMethod yX3_init, Cond.code yX3_init cX3_init 2 none, Cond.methodLink RX3 3 objectInit, Cond.arrayClass .int, Cond.fieldLink RX3 9 "GoalLifts$House" "awake" "[I", Cond.classLink RX3 15 RX1, Cond.instantiable RX1 8, Cond.initialized RX1, Cond.fieldLink RX3 18 "GoalLifts$House" "cars" "LGoalLifts$Cars;", Cond.classLink RX3 22 RX0, Cond.instantiable RX0 9, Cond.initialized RX0, Cond.fieldLink RX3 25 "GoalLifts$House" "callers" "LGoalLifts$Callers;", Cond.instanceMethod yX1_init, Cond.code yX1_init cX1_init 1 none, Cond.methodLink RX1 3 objectInit]
def wsX2_init_r2 : List Cond := [Cond.fieldLink RX1 9 "GoalLifts$Cars" "lowest" "[I", Cond.fieldLink RX1 15 "GoalLifts$Cars" "highest" "[I", Cond.fieldLink RX1 18 "GoalLifts$Cars" "places" "[I", Cond.fieldLink RX1 21 "GoalLifts$Cars" "floor" "[I", Cond.fieldLink RX1 24 "GoalLifts$Cars" "state" "[I", Cond.fieldLink RX1 27 "GoalLifts$Cars" "travelled" "[I", Cond.instanceMethod yX0_init, Cond.code yX0_init cX0_init 1 none, Cond.methodLink RX0 3 objectInit, Cond.fieldLink RX0 9 "GoalLifts$Callers" "floor" "[I", Cond.fieldLink RX0 15 "GoalLifts$Callers" "goal" "[I", Cond.fieldLink RX0 18 "GoalLifts$Callers" "phase" "[I", Cond.fieldLink RX0 21 "GoalLifts$Callers" "given" "[I", Cond.fieldLink RX0 24 "GoalLifts$Callers" "calledAt" "[I", Cond.fieldLink RX0 27 "GoalLifts$Callers" "rodeAt" "[I", Cond.fieldLink RX0 30 "GoalLifts$Callers" "thereAt" "[I", Cond.fieldLink RX0 33 "GoalLifts$Callers" "timesGiven" "[I"]
def wsX2_init : List Cond := .code yX2_init cX2_init 2 none :: ((wsX2_init_r1 ++ wsX2_init_r2) ++ wsX20 ++ wsX30 ++ wsX10 ++ wsX00)
def wsX3_copyFrom_r1 : List Cond := [Cond.fieldLink RX3 29 "GoalLifts$House" "tick" "I", Cond.fieldLink RX3 9 "GoalLifts$House" "awake" "[I", Cond.methodLink RX3 33 arraycopyName, Cond.native arraycopyName, Cond.static arraycopyName, Cond.initialized "java/lang/System", Cond.fieldLink RX3 18 "GoalLifts$House" "cars" "LGoalLifts$Cars;", Cond.fieldLink RX3 25 "GoalLifts$House" "callers" "LGoalLifts$Callers;", Cond.methodLink RX3 39 yX1_copyFrom, Cond.instanceMethod yX1_copyFrom, Cond.selects RX1 yX1_copyFrom yX1_copyFrom, Cond.initialized RX1, Cond.code yX1_copyFrom cX1_copyFrom 2 none, Cond.fieldLink RX1 30 "GoalLifts$Cars" "count" "I", Cond.fieldLink RX1 34 "GoalLifts$Cars" "stopsMade" "I", Cond.fieldLink RX1 9 "GoalLifts$Cars" "lowest" "[I", Cond.methodLink RX1 37 arraycopyName, Cond.fieldLink RX1 15 "GoalLifts$Cars" "highest" "[I", Cond.fieldLink RX1 18 "GoalLifts$Cars" "places" "[I", Cond.fieldLink RX1 21 "GoalLifts$Cars" "floor" "[I", Cond.fieldLink RX1 24 "GoalLifts$Cars" "state" "[I", Cond.fieldLink RX1 27 "GoalLifts$Cars" "travelled" "[I", Cond.methodLink RX3 43 yX0_copyFrom, Cond.instanceMethod yX0_copyFrom]
def wsX3_copyFrom_r2 : List Cond := [Cond.selects RX0 yX0_copyFrom yX0_copyFrom, Cond.initialized RX0, Cond.code yX0_copyFrom cX0_copyFrom 2 none, Cond.fieldLink RX0 36 "GoalLifts$Callers" "count" "I", Cond.fieldLink RX0 9 "GoalLifts$Callers" "floor" "[I", Cond.methodLink RX0 40 arraycopyName, Cond.fieldLink RX0 15 "GoalLifts$Callers" "goal" "[I", Cond.fieldLink RX0 18 "GoalLifts$Callers" "phase" "[I", Cond.fieldLink RX0 21 "GoalLifts$Callers" "given" "[I", Cond.fieldLink RX0 24 "GoalLifts$Callers" "calledAt" "[I", Cond.fieldLink RX0 27 "GoalLifts$Callers" "rodeAt" "[I", Cond.fieldLink RX0 30 "GoalLifts$Callers" "thereAt" "[I", Cond.fieldLink RX0 33 "GoalLifts$Callers" "timesGiven" "[I"]
def wsX3_copyFrom : List Cond := .code yX3_copyFrom cX3_copyFrom 2 none :: ((wsX3_copyFrom_r1 ++ wsX3_copyFrom_r2) ++ wsX30 ++ wsX10 ++ wsX00)
def wsJ9_floorMod_7cf53 : List Cond := .code yJ9_floorMod_7cf53 cJ9_floorMod_7cf53 3 (some .int) :: ([])
def wsX2_keep_r1 : List Cond := [Cond.fieldLink RX2 11 "GoalLifts$History" "states" "[LGoalLifts$House;", Cond.fieldLink RX2 18 "GoalLifts$History" "next" "I", Cond.fieldLink RX2 32 "GoalLifts$History" "count" "I", Cond.methodLink RX2 35 Lib.Math.min.name, Cond.static Lib.Math.min.name, Cond.initialized "java/lang/Math", Cond.code Lib.Math.min.name Lib.Math.min.code 2 (some .int), Cond.methodLink RX2 22 yX3_copyFrom, Cond.instanceMethod yX3_copyFrom, Cond.selects RX3 yX3_copyFrom yX3_copyFrom, Cond.initialized RX3, Cond.code yX3_copyFrom cX3_copyFrom 2 none, Cond.fieldLink RX3 29 "GoalLifts$House" "tick" "I", Cond.fieldLink RX3 9 "GoalLifts$House" "awake" "[I", Cond.methodLink RX3 33 arraycopyName, Cond.native arraycopyName, Cond.static arraycopyName, Cond.initialized "java/lang/System", Cond.fieldLink RX3 18 "GoalLifts$House" "cars" "LGoalLifts$Cars;", Cond.fieldLink RX3 25 "GoalLifts$House" "callers" "LGoalLifts$Callers;", Cond.methodLink RX3 39 yX1_copyFrom, Cond.instanceMethod yX1_copyFrom, Cond.selects RX1 yX1_copyFrom yX1_copyFrom, Cond.initialized RX1]
def wsX2_keep_r2 : List Cond := [Cond.code yX1_copyFrom cX1_copyFrom 2 none, Cond.fieldLink RX1 30 "GoalLifts$Cars" "count" "I", Cond.fieldLink RX1 34 "GoalLifts$Cars" "stopsMade" "I", Cond.fieldLink RX1 9 "GoalLifts$Cars" "lowest" "[I", Cond.methodLink RX1 37 arraycopyName, Cond.fieldLink RX1 15 "GoalLifts$Cars" "highest" "[I", Cond.fieldLink RX1 18 "GoalLifts$Cars" "places" "[I", Cond.fieldLink RX1 21 "GoalLifts$Cars" "floor" "[I", Cond.fieldLink RX1 24 "GoalLifts$Cars" "state" "[I", Cond.fieldLink RX1 27 "GoalLifts$Cars" "travelled" "[I", Cond.methodLink RX3 43 yX0_copyFrom, Cond.instanceMethod yX0_copyFrom, Cond.selects RX0 yX0_copyFrom yX0_copyFrom, Cond.initialized RX0, Cond.code yX0_copyFrom cX0_copyFrom 2 none, Cond.fieldLink RX0 36 "GoalLifts$Callers" "count" "I", Cond.fieldLink RX0 9 "GoalLifts$Callers" "floor" "[I", Cond.methodLink RX0 40 arraycopyName, Cond.fieldLink RX0 15 "GoalLifts$Callers" "goal" "[I", Cond.fieldLink RX0 18 "GoalLifts$Callers" "phase" "[I", Cond.fieldLink RX0 21 "GoalLifts$Callers" "given" "[I", Cond.fieldLink RX0 24 "GoalLifts$Callers" "calledAt" "[I", Cond.fieldLink RX0 27 "GoalLifts$Callers" "rodeAt" "[I", Cond.fieldLink RX0 30 "GoalLifts$Callers" "thereAt" "[I"]
def wsX2_keep_r3 : List Cond := [Cond.fieldLink RX0 33 "GoalLifts$Callers" "timesGiven" "[I", Cond.methodLink RX2 26 yJ9_floorMod_7cf53, Cond.static yJ9_floorMod_7cf53, Cond.initialized RJ9, Cond.code yJ9_floorMod_7cf53 cJ9_floorMod_7cf53 3 (some .int)]
def wsX2_keep : List Cond := .code yX2_keep cX2_keep 3 none :: ((wsX2_keep_r1 ++ (wsX2_keep_r2 ++ wsX2_keep_r3)) ++ wsX20 ++ wsX30 ++ wsX10 ++ wsX00)
def wsX2_restore_r1 : List Cond := [Cond.fieldLink RX2 18 "GoalLifts$History" "next" "I", Cond.fieldLink RX2 11 "GoalLifts$History" "states" "[LGoalLifts$House;", Cond.fieldLink RX2 32 "GoalLifts$History" "count" "I", Cond.methodLink RX2 26 yJ9_floorMod_7cf53, Cond.static yJ9_floorMod_7cf53, Cond.initialized RJ9, Cond.code yJ9_floorMod_7cf53 cJ9_floorMod_7cf53 3 (some .int), Cond.methodLink RX2 22 yX3_copyFrom, Cond.instanceMethod yX3_copyFrom, Cond.selects RX3 yX3_copyFrom yX3_copyFrom, Cond.initialized RX3, Cond.code yX3_copyFrom cX3_copyFrom 2 none, Cond.fieldLink RX3 29 "GoalLifts$House" "tick" "I", Cond.fieldLink RX3 9 "GoalLifts$House" "awake" "[I", Cond.methodLink RX3 33 arraycopyName, Cond.native arraycopyName, Cond.static arraycopyName, Cond.initialized "java/lang/System", Cond.fieldLink RX3 18 "GoalLifts$House" "cars" "LGoalLifts$Cars;", Cond.fieldLink RX3 25 "GoalLifts$House" "callers" "LGoalLifts$Callers;", Cond.methodLink RX3 39 yX1_copyFrom, Cond.instanceMethod yX1_copyFrom, Cond.selects RX1 yX1_copyFrom yX1_copyFrom, Cond.initialized RX1]
def wsX2_restore_r2 : List Cond := [Cond.code yX1_copyFrom cX1_copyFrom 2 none, Cond.fieldLink RX1 30 "GoalLifts$Cars" "count" "I", Cond.fieldLink RX1 34 "GoalLifts$Cars" "stopsMade" "I", Cond.fieldLink RX1 9 "GoalLifts$Cars" "lowest" "[I", Cond.methodLink RX1 37 arraycopyName, Cond.fieldLink RX1 15 "GoalLifts$Cars" "highest" "[I", Cond.fieldLink RX1 18 "GoalLifts$Cars" "places" "[I", Cond.fieldLink RX1 21 "GoalLifts$Cars" "floor" "[I", Cond.fieldLink RX1 24 "GoalLifts$Cars" "state" "[I", Cond.fieldLink RX1 27 "GoalLifts$Cars" "travelled" "[I", Cond.methodLink RX3 43 yX0_copyFrom, Cond.instanceMethod yX0_copyFrom, Cond.selects RX0 yX0_copyFrom yX0_copyFrom, Cond.initialized RX0, Cond.code yX0_copyFrom cX0_copyFrom 2 none, Cond.fieldLink RX0 36 "GoalLifts$Callers" "count" "I", Cond.fieldLink RX0 9 "GoalLifts$Callers" "floor" "[I", Cond.methodLink RX0 40 arraycopyName, Cond.fieldLink RX0 15 "GoalLifts$Callers" "goal" "[I", Cond.fieldLink RX0 18 "GoalLifts$Callers" "phase" "[I", Cond.fieldLink RX0 21 "GoalLifts$Callers" "given" "[I", Cond.fieldLink RX0 24 "GoalLifts$Callers" "calledAt" "[I", Cond.fieldLink RX0 27 "GoalLifts$Callers" "rodeAt" "[I", Cond.fieldLink RX0 30 "GoalLifts$Callers" "thereAt" "[I"]
def wsX2_restore_r3 : List Cond := [Cond.fieldLink RX0 33 "GoalLifts$Callers" "timesGiven" "[I"]
def wsX2_restore : List Cond := .code yX2_restore cX2_restore 4 none :: ((wsX2_restore_r1 ++ (wsX2_restore_r2 ++ wsX2_restore_r3)) ++ wsX20 ++ wsX30 ++ wsX10 ++ wsX00)
def wsX3_hour : List Cond := .code yX3_hour cX3_hour 1 (some .int) :: ([.fieldLink RX3 29 "GoalLifts$House" "tick" "I", .methodLink RX3 46 yJ9_floorMod_7cf53, .static yJ9_floorMod_7cf53, .initialized RJ9, .code yJ9_floorMod_7cf53 cJ9_floorMod_7cf53 3 (some .int)] ++ wsX30)
def wsX3_isAwake : List Cond := .code yX3_isAwake cX3_isAwake 2 (some .boolean) :: ([.fieldLink RX3 9 "GoalLifts$House" "awake" "[I", .methodLink RX3 52 yX3_hour, .instanceMethod yX3_hour, .selects RX3 yX3_hour yX3_hour, .initialized RX3, .code yX3_hour cX3_hour 1 (some .int), .fieldLink RX3 29 "GoalLifts$House" "tick" "I", .methodLink RX3 46 yJ9_floorMod_7cf53, .static yJ9_floorMod_7cf53, .initialized RJ9, .code yJ9_floorMod_7cf53 cJ9_floorMod_7cf53 3 (some .int)] ++ wsX30)
def wsX3_canBeGiven : List Cond := .code yX3_canBeGiven cX3_canBeGiven 4 (some .boolean) :: ([.fieldLink RX3 18 "GoalLifts$House" "cars" "LGoalLifts$Cars;", .fieldLink RX3 56 "GoalLifts$Cars" "state" "[I", .methodLink RX3 59 yX3_isAwake, .instanceMethod yX3_isAwake, .selects RX3 yX3_isAwake yX3_isAwake, .initialized RX3, .code yX3_isAwake cX3_isAwake 2 (some .boolean), .fieldLink RX3 9 "GoalLifts$House" "awake" "[I", .methodLink RX3 52 yX3_hour, .instanceMethod yX3_hour, .selects RX3 yX3_hour yX3_hour, .code yX3_hour cX3_hour 1 (some .int), .fieldLink RX3 29 "GoalLifts$House" "tick" "I", .methodLink RX3 46 yJ9_floorMod_7cf53, .static yJ9_floorMod_7cf53, .initialized RJ9, .code yJ9_floorMod_7cf53 cJ9_floorMod_7cf53 3 (some .int), .methodLink RX3 63 yX1_serves, .instanceMethod yX1_serves, .selects RX1 yX1_serves yX1_serves, .initialized RX1, .code yX1_serves cX1_serves 3 (some .boolean), .fieldLink RX1 9 "GoalLifts$Cars" "lowest" "[I", .fieldLink RX1 15 "GoalLifts$Cars" "highest" "[I"] ++ wsX30 ++ wsX10)
def wsJ6_bitCount_0f7a4 : List Cond := .code yJ6_bitCount_0f7a4 cJ6_bitCount_0f7a4 1 (some .int) :: ([.constant RJ6 265 (1431655765), .constant RJ6 266 (858993459), .constant RJ6 267 (252645135)])
def wsX3_costOf_r1 : List Cond := [Cond.fieldLink RX3 18 "GoalLifts$House" "cars" "LGoalLifts$Cars;", Cond.fieldLink RX3 67 "GoalLifts$Cars" "floor" "[I", Cond.methodLink RX3 70 Lib.Math.abs.name, Cond.static Lib.Math.abs.name, Cond.initialized "java/lang/Math", Cond.code Lib.Math.abs.name Lib.Math.abs.code 1 (some .int), Cond.fieldLink RX3 25 "GoalLifts$House" "callers" "LGoalLifts$Callers;", Cond.methodLink RX3 74 yX0_stopsOf, Cond.instanceMethod yX0_stopsOf, Cond.selects RX0 yX0_stopsOf yX0_stopsOf, Cond.initialized RX0, Cond.code yX0_stopsOf cX0_stopsOf 4 (some .int), Cond.fieldLink RX0 36 "GoalLifts$Callers" "count" "I", Cond.fieldLink RX0 9 "GoalLifts$Callers" "floor" "[I", Cond.fieldLink RX0 15 "GoalLifts$Callers" "goal" "[I", Cond.methodLink RX0 54 yX0_waitsFor, Cond.instanceMethod yX0_waitsFor, Cond.selects RX0 yX0_waitsFor yX0_waitsFor, Cond.code yX0_waitsFor cX0_waitsFor 3 (some .boolean), Cond.fieldLink RX0 18 "GoalLifts$Callers" "phase" "[I", Cond.fieldLink RX0 21 "GoalLifts$Callers" "given" "[I", Cond.methodLink RX0 58 yX0_rides, Cond.instanceMethod yX0_rides, Cond.selects RX0 yX0_rides yX0_rides]
def wsX3_costOf_r2 : List Cond := [Cond.code yX0_rides cX0_rides 3 (some .boolean), Cond.methodLink RX3 77 yJ6_bitCount_0f7a4, Cond.static yJ6_bitCount_0f7a4, Cond.initialized RJ6, Cond.code yJ6_bitCount_0f7a4 cJ6_bitCount_0f7a4 1 (some .int), Cond.constant RJ6 265 (1431655765), Cond.constant RJ6 266 (858993459), Cond.constant RJ6 267 (252645135), Cond.methodLink RX3 82 yX0_numberWith, Cond.instanceMethod yX0_numberWith, Cond.selects RX0 yX0_numberWith yX0_numberWith, Cond.code yX0_numberWith cX0_numberWith 2 (some .int), Cond.methodLink RX0 50 yX0_numberOf, Cond.instanceMethod yX0_numberOf, Cond.selects RX0 yX0_numberOf yX0_numberOf, Cond.code yX0_numberOf cX0_numberOf 5 (some .int)]
def wsX3_costOf : List Cond := .code yX3_costOf cX3_costOf 6 (some .int) :: ((wsX3_costOf_r1 ++ wsX3_costOf_r2) ++ wsX30 ++ wsX10 ++ wsX00)
def wsX3_bestCar_r1 : List Cond := [Cond.fieldLink RX3 18 "GoalLifts$House" "cars" "LGoalLifts$Cars;", Cond.fieldLink RX3 85 "GoalLifts$Cars" "count" "I", Cond.methodLink RX3 88 yX3_canBeGiven, Cond.instanceMethod yX3_canBeGiven, Cond.selects RX3 yX3_canBeGiven yX3_canBeGiven, Cond.initialized RX3, Cond.code yX3_canBeGiven cX3_canBeGiven 4 (some .boolean), Cond.fieldLink RX3 56 "GoalLifts$Cars" "state" "[I", Cond.methodLink RX3 59 yX3_isAwake, Cond.instanceMethod yX3_isAwake, Cond.selects RX3 yX3_isAwake yX3_isAwake, Cond.code yX3_isAwake cX3_isAwake 2 (some .boolean), Cond.fieldLink RX3 9 "GoalLifts$House" "awake" "[I", Cond.methodLink RX3 52 yX3_hour, Cond.instanceMethod yX3_hour, Cond.selects RX3 yX3_hour yX3_hour, Cond.code yX3_hour cX3_hour 1 (some .int), Cond.fieldLink RX3 29 "GoalLifts$House" "tick" "I", Cond.methodLink RX3 46 yJ9_floorMod_7cf53, Cond.static yJ9_floorMod_7cf53, Cond.initialized RJ9, Cond.code yJ9_floorMod_7cf53 cJ9_floorMod_7cf53 3 (some .int), Cond.methodLink RX3 63 yX1_serves, Cond.instanceMethod yX1_serves]
def wsX3_bestCar_r2 : List Cond := [Cond.selects RX1 yX1_serves yX1_serves, Cond.initialized RX1, Cond.code yX1_serves cX1_serves 3 (some .boolean), Cond.fieldLink RX1 9 "GoalLifts$Cars" "lowest" "[I", Cond.fieldLink RX1 15 "GoalLifts$Cars" "highest" "[I", Cond.methodLink RX3 92 yX3_costOf, Cond.instanceMethod yX3_costOf, Cond.selects RX3 yX3_costOf yX3_costOf, Cond.code yX3_costOf cX3_costOf 6 (some .int), Cond.fieldLink RX3 67 "GoalLifts$Cars" "floor" "[I", Cond.methodLink RX3 70 Lib.Math.abs.name, Cond.static Lib.Math.abs.name, Cond.initialized "java/lang/Math", Cond.code Lib.Math.abs.name Lib.Math.abs.code 1 (some .int), Cond.fieldLink RX3 25 "GoalLifts$House" "callers" "LGoalLifts$Callers;", Cond.methodLink RX3 74 yX0_stopsOf, Cond.instanceMethod yX0_stopsOf, Cond.selects RX0 yX0_stopsOf yX0_stopsOf, Cond.initialized RX0, Cond.code yX0_stopsOf cX0_stopsOf 4 (some .int), Cond.fieldLink RX0 36 "GoalLifts$Callers" "count" "I", Cond.fieldLink RX0 9 "GoalLifts$Callers" "floor" "[I", Cond.fieldLink RX0 15 "GoalLifts$Callers" "goal" "[I", Cond.methodLink RX0 54 yX0_waitsFor]
def wsX3_bestCar_r3 : List Cond := [Cond.instanceMethod yX0_waitsFor, Cond.selects RX0 yX0_waitsFor yX0_waitsFor, Cond.code yX0_waitsFor cX0_waitsFor 3 (some .boolean), Cond.fieldLink RX0 18 "GoalLifts$Callers" "phase" "[I", Cond.fieldLink RX0 21 "GoalLifts$Callers" "given" "[I", Cond.methodLink RX0 58 yX0_rides, Cond.instanceMethod yX0_rides, Cond.selects RX0 yX0_rides yX0_rides, Cond.code yX0_rides cX0_rides 3 (some .boolean), Cond.methodLink RX3 77 yJ6_bitCount_0f7a4, Cond.static yJ6_bitCount_0f7a4, Cond.initialized RJ6, Cond.code yJ6_bitCount_0f7a4 cJ6_bitCount_0f7a4 1 (some .int), Cond.constant RJ6 265 (1431655765), Cond.constant RJ6 266 (858993459), Cond.constant RJ6 267 (252645135), Cond.methodLink RX3 82 yX0_numberWith, Cond.instanceMethod yX0_numberWith, Cond.selects RX0 yX0_numberWith yX0_numberWith, Cond.code yX0_numberWith cX0_numberWith 2 (some .int), Cond.methodLink RX0 50 yX0_numberOf, Cond.instanceMethod yX0_numberOf, Cond.selects RX0 yX0_numberOf yX0_numberOf, Cond.code yX0_numberOf cX0_numberOf 5 (some .int)]
def wsX3_bestCar : List Cond := .code yX3_bestCar cX3_bestCar 7 (some .int) :: ((wsX3_bestCar_r1 ++ (wsX3_bestCar_r2 ++ wsX3_bestCar_r3)) ++ wsX30 ++ wsX10 ++ wsX00)
def wsX3_stopOrTravel_r1 : List Cond := [Cond.fieldLink RX3 18 "GoalLifts$House" "cars" "LGoalLifts$Cars;", Cond.fieldLink RX3 67 "GoalLifts$Cars" "floor" "[I", Cond.fieldLink RX3 25 "GoalLifts$House" "callers" "LGoalLifts$Callers;", Cond.fieldLink RX3 29 "GoalLifts$House" "tick" "I", Cond.fieldLink RX3 118 "GoalLifts$Cars" "places" "[I", Cond.fieldLink RX3 125 "GoalLifts$Cars" "stopsMade" "I", Cond.methodLink RX3 115 yX0_letOut, Cond.instanceMethod yX0_letOut, Cond.selects RX0 yX0_letOut yX0_letOut, Cond.initialized RX0, Cond.code yX0_letOut cX0_letOut 6 (some .int), Cond.fieldLink RX0 36 "GoalLifts$Callers" "count" "I", Cond.fieldLink RX0 15 "GoalLifts$Callers" "goal" "[I", Cond.fieldLink RX0 18 "GoalLifts$Callers" "phase" "[I", Cond.fieldLink RX0 30 "GoalLifts$Callers" "thereAt" "[I", Cond.methodLink RX0 58 yX0_rides, Cond.instanceMethod yX0_rides, Cond.selects RX0 yX0_rides yX0_rides, Cond.code yX0_rides cX0_rides 3 (some .boolean), Cond.fieldLink RX0 21 "GoalLifts$Callers" "given" "[I", Cond.methodLink RX3 121 yX0_takeIn, Cond.instanceMethod yX0_takeIn, Cond.selects RX0 yX0_takeIn yX0_takeIn, Cond.code yX0_takeIn cX0_takeIn 8 (some .int)]
def wsX3_stopOrTravel_r2 : List Cond := [Cond.fieldLink RX0 9 "GoalLifts$Callers" "floor" "[I", Cond.fieldLink RX0 27 "GoalLifts$Callers" "rodeAt" "[I", Cond.methodLink RX0 50 yX0_numberOf, Cond.instanceMethod yX0_numberOf, Cond.selects RX0 yX0_numberOf yX0_numberOf, Cond.code yX0_numberOf cX0_numberOf 5 (some .int), Cond.methodLink RX0 54 yX0_waitsFor, Cond.instanceMethod yX0_waitsFor, Cond.selects RX0 yX0_waitsFor yX0_waitsFor, Cond.code yX0_waitsFor cX0_waitsFor 3 (some .boolean), Cond.methodLink RX3 128 yX0_aimOf, Cond.instanceMethod yX0_aimOf, Cond.selects RX0 yX0_aimOf yX0_aimOf, Cond.code yX0_aimOf cX0_aimOf 6 (some .int), Cond.methodLink RX0 61 yX0_isNearer, Cond.static yX0_isNearer, Cond.code yX0_isNearer cX0_isNearer 5 (some .boolean), Cond.methodLink RX0 65 Lib.Math.abs.name, Cond.static Lib.Math.abs.name, Cond.initialized "java/lang/Math", Cond.code Lib.Math.abs.name Lib.Math.abs.code 1 (some .int), Cond.methodLink RX3 131 yX1_travelTowards, Cond.instanceMethod yX1_travelTowards, Cond.selects RX1 yX1_travelTowards yX1_travelTowards]
def wsX3_stopOrTravel_r3 : List Cond := [Cond.initialized RX1, Cond.code yX1_travelTowards cX1_travelTowards 3 none, Cond.fieldLink RX1 21 "GoalLifts$Cars" "floor" "[I", Cond.fieldLink RX1 27 "GoalLifts$Cars" "travelled" "[I"]
def wsX3_stopOrTravel : List Cond := .code yX3_stopOrTravel cX3_stopOrTravel 6 none :: ((wsX3_stopOrTravel_r1 ++ (wsX3_stopOrTravel_r2 ++ wsX3_stopOrTravel_r3)) ++ wsX30 ++ wsX10 ++ wsX00)
def wsX3_oneTick_r1 : List Cond := [Cond.fieldLink RX3 25 "GoalLifts$House" "callers" "LGoalLifts$Callers;", Cond.fieldLink RX3 96 "GoalLifts$Callers" "count" "I", Cond.fieldLink RX3 97 "GoalLifts$Callers" "phase" "[I", Cond.fieldLink RX3 100 "GoalLifts$Callers" "floor" "[I", Cond.fieldLink RX3 101 "GoalLifts$Callers" "goal" "[I", Cond.fieldLink RX3 18 "GoalLifts$House" "cars" "LGoalLifts$Cars;", Cond.fieldLink RX3 85 "GoalLifts$Cars" "count" "I", Cond.fieldLink RX3 56 "GoalLifts$Cars" "state" "[I", Cond.fieldLink RX3 29 "GoalLifts$House" "tick" "I", Cond.methodLink RX3 104 yX3_bestCar, Cond.instanceMethod yX3_bestCar, Cond.selects RX3 yX3_bestCar yX3_bestCar, Cond.initialized RX3, Cond.code yX3_bestCar cX3_bestCar 7 (some .int), Cond.methodLink RX3 88 yX3_canBeGiven, Cond.instanceMethod yX3_canBeGiven, Cond.selects RX3 yX3_canBeGiven yX3_canBeGiven, Cond.code yX3_canBeGiven cX3_canBeGiven 4 (some .boolean), Cond.methodLink RX3 59 yX3_isAwake, Cond.instanceMethod yX3_isAwake, Cond.selects RX3 yX3_isAwake yX3_isAwake, Cond.code yX3_isAwake cX3_isAwake 2 (some .boolean), Cond.fieldLink RX3 9 "GoalLifts$House" "awake" "[I", Cond.methodLink RX3 52 yX3_hour]
def wsX3_oneTick_r2 : List Cond := [Cond.instanceMethod yX3_hour, Cond.selects RX3 yX3_hour yX3_hour, Cond.code yX3_hour cX3_hour 1 (some .int), Cond.methodLink RX3 46 yJ9_floorMod_7cf53, Cond.static yJ9_floorMod_7cf53, Cond.initialized RJ9, Cond.code yJ9_floorMod_7cf53 cJ9_floorMod_7cf53 3 (some .int), Cond.methodLink RX3 63 yX1_serves, Cond.instanceMethod yX1_serves, Cond.selects RX1 yX1_serves yX1_serves, Cond.initialized RX1, Cond.code yX1_serves cX1_serves 3 (some .boolean), Cond.fieldLink RX1 9 "GoalLifts$Cars" "lowest" "[I", Cond.fieldLink RX1 15 "GoalLifts$Cars" "highest" "[I", Cond.methodLink RX3 92 yX3_costOf, Cond.instanceMethod yX3_costOf, Cond.selects RX3 yX3_costOf yX3_costOf, Cond.code yX3_costOf cX3_costOf 6 (some .int), Cond.fieldLink RX3 67 "GoalLifts$Cars" "floor" "[I", Cond.methodLink RX3 70 Lib.Math.abs.name, Cond.static Lib.Math.abs.name, Cond.initialized "java/lang/Math", Cond.code Lib.Math.abs.name Lib.Math.abs.code 1 (some .int), Cond.methodLink RX3 74 yX0_stopsOf]
def wsX3_oneTick_r3 : List Cond := [Cond.instanceMethod yX0_stopsOf, Cond.selects RX0 yX0_stopsOf yX0_stopsOf, Cond.initialized RX0, Cond.code yX0_stopsOf cX0_stopsOf 4 (some .int), Cond.fieldLink RX0 36 "GoalLifts$Callers" "count" "I", Cond.fieldLink RX0 9 "GoalLifts$Callers" "floor" "[I", Cond.fieldLink RX0 15 "GoalLifts$Callers" "goal" "[I", Cond.methodLink RX0 54 yX0_waitsFor, Cond.instanceMethod yX0_waitsFor, Cond.selects RX0 yX0_waitsFor yX0_waitsFor, Cond.code yX0_waitsFor cX0_waitsFor 3 (some .boolean), Cond.fieldLink RX0 18 "GoalLifts$Callers" "phase" "[I", Cond.fieldLink RX0 21 "GoalLifts$Callers" "given" "[I", Cond.methodLink RX0 58 yX0_rides, Cond.instanceMethod yX0_rides, Cond.selects RX0 yX0_rides yX0_rides, Cond.code yX0_rides cX0_rides 3 (some .boolean), Cond.methodLink RX3 77 yJ6_bitCount_0f7a4, Cond.static yJ6_bitCount_0f7a4, Cond.initialized RJ6, Cond.code yJ6_bitCount_0f7a4 cJ6_bitCount_0f7a4 1 (some .int), Cond.constant RJ6 265 (1431655765), Cond.constant RJ6 266 (858993459), Cond.constant RJ6 267 (252645135)]
def wsX3_oneTick_r4 : List Cond := [Cond.methodLink RX3 82 yX0_numberWith, Cond.instanceMethod yX0_numberWith, Cond.selects RX0 yX0_numberWith yX0_numberWith, Cond.code yX0_numberWith cX0_numberWith 2 (some .int), Cond.methodLink RX0 50 yX0_numberOf, Cond.instanceMethod yX0_numberOf, Cond.selects RX0 yX0_numberOf yX0_numberOf, Cond.code yX0_numberOf cX0_numberOf 5 (some .int), Cond.methodLink RX3 107 yX0_give, Cond.instanceMethod yX0_give, Cond.selects RX0 yX0_give yX0_give, Cond.code yX0_give cX0_give 3 none, Cond.fieldLink RX0 33 "GoalLifts$Callers" "timesGiven" "[I", Cond.methodLink RX0 46 yX0_has, Cond.instanceMethod yX0_has, Cond.selects RX0 yX0_has yX0_has, Cond.code yX0_has cX0_has 2 (some .boolean), Cond.methodLink RX3 111 yX3_stopOrTravel, Cond.instanceMethod yX3_stopOrTravel, Cond.selects RX3 yX3_stopOrTravel yX3_stopOrTravel, Cond.code yX3_stopOrTravel cX3_stopOrTravel 6 none, Cond.fieldLink RX3 118 "GoalLifts$Cars" "places" "[I", Cond.fieldLink RX3 125 "GoalLifts$Cars" "stopsMade" "I", Cond.methodLink RX3 115 yX0_letOut]
def wsX3_oneTick_r5 : List Cond := [Cond.instanceMethod yX0_letOut, Cond.selects RX0 yX0_letOut yX0_letOut, Cond.code yX0_letOut cX0_letOut 6 (some .int), Cond.fieldLink RX0 30 "GoalLifts$Callers" "thereAt" "[I", Cond.methodLink RX3 121 yX0_takeIn, Cond.instanceMethod yX0_takeIn, Cond.selects RX0 yX0_takeIn yX0_takeIn, Cond.code yX0_takeIn cX0_takeIn 8 (some .int), Cond.fieldLink RX0 27 "GoalLifts$Callers" "rodeAt" "[I", Cond.methodLink RX3 128 yX0_aimOf, Cond.instanceMethod yX0_aimOf, Cond.selects RX0 yX0_aimOf yX0_aimOf, Cond.code yX0_aimOf cX0_aimOf 6 (some .int), Cond.methodLink RX0 61 yX0_isNearer, Cond.static yX0_isNearer, Cond.code yX0_isNearer cX0_isNearer 5 (some .boolean), Cond.methodLink RX0 65 Lib.Math.abs.name, Cond.methodLink RX3 131 yX1_travelTowards, Cond.instanceMethod yX1_travelTowards, Cond.selects RX1 yX1_travelTowards yX1_travelTowards, Cond.code yX1_travelTowards cX1_travelTowards 3 none, Cond.fieldLink RX1 21 "GoalLifts$Cars" "floor" "[I", Cond.fieldLink RX1 27 "GoalLifts$Cars" "travelled" "[I"]
def wsX3_oneTick : List Cond := .code yX3_oneTick cX3_oneTick 2 none :: ((wsX3_oneTick_r1 ++ (wsX3_oneTick_r2 ++ (wsX3_oneTick_r3 ++ (wsX3_oneTick_r4 ++ wsX3_oneTick_r5)))) ++ wsX30 ++ wsX00 ++ wsX10)
def wsX3_breakCar : List Cond := .code yX3_breakCar cX3_breakCar 2 none :: ([.fieldLink RX3 18 "GoalLifts$House" "cars" "LGoalLifts$Cars;", .fieldLink RX3 56 "GoalLifts$Cars" "state" "[I", .fieldLink RX3 25 "GoalLifts$House" "callers" "LGoalLifts$Callers;", .fieldLink RX3 67 "GoalLifts$Cars" "floor" "[I", .fieldLink RX3 29 "GoalLifts$House" "tick" "I", .methodLink RX3 134 yX0_loseCar, .instanceMethod yX0_loseCar, .selects RX0 yX0_loseCar yX0_loseCar, .initialized RX0, .code yX0_loseCar cX0_loseCar 6 none, .fieldLink RX0 36 "GoalLifts$Callers" "count" "I", .fieldLink RX0 9 "GoalLifts$Callers" "floor" "[I", .fieldLink RX0 15 "GoalLifts$Callers" "goal" "[I", .fieldLink RX0 18 "GoalLifts$Callers" "phase" "[I", .fieldLink RX0 30 "GoalLifts$Callers" "thereAt" "[I", .fieldLink RX0 21 "GoalLifts$Callers" "given" "[I", .methodLink RX0 58 yX0_rides, .instanceMethod yX0_rides, .selects RX0 yX0_rides yX0_rides, .code yX0_rides cX0_rides 3 (some .boolean), .methodLink RX0 54 yX0_waitsFor, .instanceMethod yX0_waitsFor, .selects RX0 yX0_waitsFor yX0_waitsFor, .code yX0_waitsFor cX0_waitsFor 3 (some .boolean)] ++ wsX30 ++ wsX10 ++ wsX00)
def wsX4_init_r1 : List Cond := [Cond.methodLink RX4 1 objectInit, Cond.instanceMethod objectInit, Cond.code objectInit ⟨#[0xb1]⟩ 1 none, Cond.classLink RX4 7 RX3, Cond.instantiable RX3 4, Cond.initialized RX3, Cond.fieldLink RX4 10 "GoalLifts" "house" "LGoalLifts$House;", Cond.fieldLink RX4 16 "GoalLifts" "forecast" "LGoalLifts$House;", Cond.classLink RX4 19 RX2, Cond.instantiable RX2 3, Cond.initialized RX2, Cond.fieldLink RX4 22 "GoalLifts" "history" "LGoalLifts$History;", Cond.methodLink RX4 9 yX3_init, Cond.instanceMethod yX3_init, Cond.code yX3_init cX3_init 2 none, Cond.methodLink RX3 3 objectInit, Cond.arrayClass .int, Cond.fieldLink RX3 9 "GoalLifts$House" "awake" "[I", Cond.classLink RX3 15 RX1, Cond.instantiable RX1 8, Cond.initialized RX1, Cond.fieldLink RX3 18 "GoalLifts$House" "cars" "LGoalLifts$Cars;", Cond.classLink RX3 22 RX0, Cond.instantiable RX0 9]
def wsX4_init_r2 : List Cond := [Cond.initialized RX0, Cond.fieldLink RX3 25 "GoalLifts$House" "callers" "LGoalLifts$Callers;", Cond.instanceMethod yX1_init, Cond.code yX1_init cX1_init 1 none, Cond.methodLink RX1 3 objectInit, Cond.fieldLink RX1 9 "GoalLifts$Cars" "lowest" "[I", Cond.fieldLink RX1 15 "GoalLifts$Cars" "highest" "[I", Cond.fieldLink RX1 18 "GoalLifts$Cars" "places" "[I", Cond.fieldLink RX1 21 "GoalLifts$Cars" "floor" "[I", Cond.fieldLink RX1 24 "GoalLifts$Cars" "state" "[I", Cond.fieldLink RX1 27 "GoalLifts$Cars" "travelled" "[I", Cond.instanceMethod yX0_init, Cond.code yX0_init cX0_init 1 none, Cond.methodLink RX0 3 objectInit, Cond.fieldLink RX0 9 "GoalLifts$Callers" "floor" "[I", Cond.fieldLink RX0 15 "GoalLifts$Callers" "goal" "[I", Cond.fieldLink RX0 18 "GoalLifts$Callers" "phase" "[I", Cond.fieldLink RX0 21 "GoalLifts$Callers" "given" "[I", Cond.fieldLink RX0 24 "GoalLifts$Callers" "calledAt" "[I", Cond.fieldLink RX0 27 "GoalLifts$Callers" "rodeAt" "[I", Cond.fieldLink RX0 30 "GoalLifts$Callers" "thereAt" "[I", Cond.fieldLink RX0 33 "GoalLifts$Callers" "timesGiven" "[I", Cond.methodLink RX4 21 yX2_init, Cond.instanceMethod yX2_init]
def wsX4_init_r3 : List Cond := [Cond.code yX2_init cX2_init 2 none, Cond.methodLink RX2 3 objectInit, Cond.classLink RX2 9 RX3, Cond.fieldLink RX2 11 "GoalLifts$History" "states" "[LGoalLifts$House;", Cond.methodLink RX2 17 yX3_init]
def wsX4_init : List Cond := .code yX4_init cX4_init 1 none :: ((wsX4_init_r1 ++ (wsX4_init_r2 ++ wsX4_init_r3)) ++ wsX30 ++ wsX40 ++ wsX20 ++ wsX10 ++ wsX00)
def wsX4_isFloor : List Cond := .code yX4_isFloor cX4_isFloor 1 (some .boolean) :: ([])
def wsX4_addCar_r1 : List Cond := [Cond.fieldLink RX4 10 "GoalLifts" "house" "LGoalLifts$House;", Cond.fieldLink RX4 30 "GoalLifts$House" "cars" "LGoalLifts$Cars;", Cond.fieldLink RX4 34 "GoalLifts$Cars" "count" "I", Cond.fieldLink RX4 22 "GoalLifts" "history" "LGoalLifts$History;", Cond.methodLink RX4 26 yX4_isFloor, Cond.static yX4_isFloor, Cond.initialized RX4, Cond.code yX4_isFloor cX4_isFloor 1 (some .boolean), Cond.methodLink RX4 40 yX2_keep, Cond.instanceMethod yX2_keep, Cond.selects RX2 yX2_keep yX2_keep, Cond.initialized RX2, Cond.code yX2_keep cX2_keep 3 none, Cond.fieldLink RX2 11 "GoalLifts$History" "states" "[LGoalLifts$House;", Cond.fieldLink RX2 18 "GoalLifts$History" "next" "I", Cond.fieldLink RX2 32 "GoalLifts$History" "count" "I", Cond.methodLink RX2 35 Lib.Math.min.name, Cond.static Lib.Math.min.name, Cond.initialized "java/lang/Math", Cond.code Lib.Math.min.name Lib.Math.min.code 2 (some .int), Cond.methodLink RX2 22 yX3_copyFrom, Cond.instanceMethod yX3_copyFrom, Cond.selects RX3 yX3_copyFrom yX3_copyFrom, Cond.initialized RX3]
def wsX4_addCar_r2 : List Cond := [Cond.code yX3_copyFrom cX3_copyFrom 2 none, Cond.fieldLink RX3 29 "GoalLifts$House" "tick" "I", Cond.fieldLink RX3 9 "GoalLifts$House" "awake" "[I", Cond.methodLink RX3 33 arraycopyName, Cond.native arraycopyName, Cond.static arraycopyName, Cond.initialized "java/lang/System", Cond.fieldLink RX3 18 "GoalLifts$House" "cars" "LGoalLifts$Cars;", Cond.fieldLink RX3 25 "GoalLifts$House" "callers" "LGoalLifts$Callers;", Cond.methodLink RX3 39 yX1_copyFrom, Cond.instanceMethod yX1_copyFrom, Cond.selects RX1 yX1_copyFrom yX1_copyFrom, Cond.initialized RX1, Cond.code yX1_copyFrom cX1_copyFrom 2 none, Cond.fieldLink RX1 30 "GoalLifts$Cars" "count" "I", Cond.fieldLink RX1 34 "GoalLifts$Cars" "stopsMade" "I", Cond.fieldLink RX1 9 "GoalLifts$Cars" "lowest" "[I", Cond.methodLink RX1 37 arraycopyName, Cond.fieldLink RX1 15 "GoalLifts$Cars" "highest" "[I", Cond.fieldLink RX1 18 "GoalLifts$Cars" "places" "[I", Cond.fieldLink RX1 21 "GoalLifts$Cars" "floor" "[I", Cond.fieldLink RX1 24 "GoalLifts$Cars" "state" "[I", Cond.fieldLink RX1 27 "GoalLifts$Cars" "travelled" "[I", Cond.methodLink RX3 43 yX0_copyFrom]
def wsX4_addCar_r3 : List Cond := [Cond.instanceMethod yX0_copyFrom, Cond.selects RX0 yX0_copyFrom yX0_copyFrom, Cond.initialized RX0, Cond.code yX0_copyFrom cX0_copyFrom 2 none, Cond.fieldLink RX0 36 "GoalLifts$Callers" "count" "I", Cond.fieldLink RX0 9 "GoalLifts$Callers" "floor" "[I", Cond.methodLink RX0 40 arraycopyName, Cond.fieldLink RX0 15 "GoalLifts$Callers" "goal" "[I", Cond.fieldLink RX0 18 "GoalLifts$Callers" "phase" "[I", Cond.fieldLink RX0 21 "GoalLifts$Callers" "given" "[I", Cond.fieldLink RX0 24 "GoalLifts$Callers" "calledAt" "[I", Cond.fieldLink RX0 27 "GoalLifts$Callers" "rodeAt" "[I", Cond.fieldLink RX0 30 "GoalLifts$Callers" "thereAt" "[I", Cond.fieldLink RX0 33 "GoalLifts$Callers" "timesGiven" "[I", Cond.methodLink RX2 26 yJ9_floorMod_7cf53, Cond.static yJ9_floorMod_7cf53, Cond.initialized RJ9, Cond.code yJ9_floorMod_7cf53 cJ9_floorMod_7cf53 3 (some .int), Cond.methodLink RX4 44 yX1_add, Cond.instanceMethod yX1_add, Cond.selects RX1 yX1_add yX1_add, Cond.code yX1_add cX1_add 5 (some .int)]
def wsX4_addCar : List Cond := .code yX4_addCar cX4_addCar 4 (some .int) :: ((wsX4_addCar_r1 ++ (wsX4_addCar_r2 ++ wsX4_addCar_r3)) ++ wsX40 ++ wsX30 ++ wsX10 ++ wsX20 ++ wsX00)
def wsX4_setAwake_r1 : List Cond := [Cond.fieldLink RX4 22 "GoalLifts" "history" "LGoalLifts$History;", Cond.fieldLink RX4 10 "GoalLifts" "house" "LGoalLifts$House;", Cond.fieldLink RX4 48 "GoalLifts$House" "awake" "[I", Cond.methodLink RX4 40 yX2_keep, Cond.instanceMethod yX2_keep, Cond.selects RX2 yX2_keep yX2_keep, Cond.initialized RX2, Cond.code yX2_keep cX2_keep 3 none, Cond.fieldLink RX2 11 "GoalLifts$History" "states" "[LGoalLifts$House;", Cond.fieldLink RX2 18 "GoalLifts$History" "next" "I", Cond.fieldLink RX2 32 "GoalLifts$History" "count" "I", Cond.methodLink RX2 35 Lib.Math.min.name, Cond.static Lib.Math.min.name, Cond.initialized "java/lang/Math", Cond.code Lib.Math.min.name Lib.Math.min.code 2 (some .int), Cond.methodLink RX2 22 yX3_copyFrom, Cond.instanceMethod yX3_copyFrom, Cond.selects RX3 yX3_copyFrom yX3_copyFrom, Cond.initialized RX3, Cond.code yX3_copyFrom cX3_copyFrom 2 none, Cond.fieldLink RX3 29 "GoalLifts$House" "tick" "I", Cond.fieldLink RX3 9 "GoalLifts$House" "awake" "[I", Cond.methodLink RX3 33 arraycopyName, Cond.native arraycopyName]
def wsX4_setAwake_r2 : List Cond := [Cond.static arraycopyName, Cond.initialized "java/lang/System", Cond.fieldLink RX3 18 "GoalLifts$House" "cars" "LGoalLifts$Cars;", Cond.fieldLink RX3 25 "GoalLifts$House" "callers" "LGoalLifts$Callers;", Cond.methodLink RX3 39 yX1_copyFrom, Cond.instanceMethod yX1_copyFrom, Cond.selects RX1 yX1_copyFrom yX1_copyFrom, Cond.initialized RX1, Cond.code yX1_copyFrom cX1_copyFrom 2 none, Cond.fieldLink RX1 30 "GoalLifts$Cars" "count" "I", Cond.fieldLink RX1 34 "GoalLifts$Cars" "stopsMade" "I", Cond.fieldLink RX1 9 "GoalLifts$Cars" "lowest" "[I", Cond.methodLink RX1 37 arraycopyName, Cond.fieldLink RX1 15 "GoalLifts$Cars" "highest" "[I", Cond.fieldLink RX1 18 "GoalLifts$Cars" "places" "[I", Cond.fieldLink RX1 21 "GoalLifts$Cars" "floor" "[I", Cond.fieldLink RX1 24 "GoalLifts$Cars" "state" "[I", Cond.fieldLink RX1 27 "GoalLifts$Cars" "travelled" "[I", Cond.methodLink RX3 43 yX0_copyFrom, Cond.instanceMethod yX0_copyFrom, Cond.selects RX0 yX0_copyFrom yX0_copyFrom, Cond.initialized RX0, Cond.code yX0_copyFrom cX0_copyFrom 2 none, Cond.fieldLink RX0 36 "GoalLifts$Callers" "count" "I"]
def wsX4_setAwake_r3 : List Cond := [Cond.fieldLink RX0 9 "GoalLifts$Callers" "floor" "[I", Cond.methodLink RX0 40 arraycopyName, Cond.fieldLink RX0 15 "GoalLifts$Callers" "goal" "[I", Cond.fieldLink RX0 18 "GoalLifts$Callers" "phase" "[I", Cond.fieldLink RX0 21 "GoalLifts$Callers" "given" "[I", Cond.fieldLink RX0 24 "GoalLifts$Callers" "calledAt" "[I", Cond.fieldLink RX0 27 "GoalLifts$Callers" "rodeAt" "[I", Cond.fieldLink RX0 30 "GoalLifts$Callers" "thereAt" "[I", Cond.fieldLink RX0 33 "GoalLifts$Callers" "timesGiven" "[I", Cond.methodLink RX2 26 yJ9_floorMod_7cf53, Cond.static yJ9_floorMod_7cf53, Cond.initialized RJ9, Cond.code yJ9_floorMod_7cf53 cJ9_floorMod_7cf53 3 (some .int)]
def wsX4_setAwake : List Cond := .code yX4_setAwake cX4_setAwake 4 (some .int) :: ((wsX4_setAwake_r1 ++ (wsX4_setAwake_r2 ++ wsX4_setAwake_r3)) ++ wsX40 ++ wsX30 ++ wsX20 ++ wsX10 ++ wsX00)
def wsX4_hold_r1 : List Cond := [Cond.fieldLink RX4 10 "GoalLifts" "house" "LGoalLifts$House;", Cond.fieldLink RX4 30 "GoalLifts$House" "cars" "LGoalLifts$Cars;", Cond.fieldLink RX4 55 "GoalLifts$Cars" "state" "[I", Cond.fieldLink RX4 22 "GoalLifts" "history" "LGoalLifts$History;", Cond.fieldLink RX4 58 "GoalLifts$House" "callers" "LGoalLifts$Callers;", Cond.methodLink RX4 52 yX1_has, Cond.instanceMethod yX1_has, Cond.selects RX1 yX1_has yX1_has, Cond.initialized RX1, Cond.code yX1_has cX1_has 2 (some .boolean), Cond.fieldLink RX1 30 "GoalLifts$Cars" "count" "I", Cond.methodLink RX4 40 yX2_keep, Cond.instanceMethod yX2_keep, Cond.selects RX2 yX2_keep yX2_keep, Cond.initialized RX2, Cond.code yX2_keep cX2_keep 3 none, Cond.fieldLink RX2 11 "GoalLifts$History" "states" "[LGoalLifts$House;", Cond.fieldLink RX2 18 "GoalLifts$History" "next" "I", Cond.fieldLink RX2 32 "GoalLifts$History" "count" "I", Cond.methodLink RX2 35 Lib.Math.min.name, Cond.static Lib.Math.min.name, Cond.initialized "java/lang/Math", Cond.code Lib.Math.min.name Lib.Math.min.code 2 (some .int), Cond.methodLink RX2 22 yX3_copyFrom]
def wsX4_hold_r2 : List Cond := [Cond.instanceMethod yX3_copyFrom, Cond.selects RX3 yX3_copyFrom yX3_copyFrom, Cond.initialized RX3, Cond.code yX3_copyFrom cX3_copyFrom 2 none, Cond.fieldLink RX3 29 "GoalLifts$House" "tick" "I", Cond.fieldLink RX3 9 "GoalLifts$House" "awake" "[I", Cond.methodLink RX3 33 arraycopyName, Cond.native arraycopyName, Cond.static arraycopyName, Cond.initialized "java/lang/System", Cond.fieldLink RX3 18 "GoalLifts$House" "cars" "LGoalLifts$Cars;", Cond.fieldLink RX3 25 "GoalLifts$House" "callers" "LGoalLifts$Callers;", Cond.methodLink RX3 39 yX1_copyFrom, Cond.instanceMethod yX1_copyFrom, Cond.selects RX1 yX1_copyFrom yX1_copyFrom, Cond.code yX1_copyFrom cX1_copyFrom 2 none, Cond.fieldLink RX1 34 "GoalLifts$Cars" "stopsMade" "I", Cond.fieldLink RX1 9 "GoalLifts$Cars" "lowest" "[I", Cond.methodLink RX1 37 arraycopyName, Cond.fieldLink RX1 15 "GoalLifts$Cars" "highest" "[I", Cond.fieldLink RX1 18 "GoalLifts$Cars" "places" "[I", Cond.fieldLink RX1 21 "GoalLifts$Cars" "floor" "[I", Cond.fieldLink RX1 24 "GoalLifts$Cars" "state" "[I", Cond.fieldLink RX1 27 "GoalLifts$Cars" "travelled" "[I"]
def wsX4_hold_r3 : List Cond := [Cond.methodLink RX3 43 yX0_copyFrom, Cond.instanceMethod yX0_copyFrom, Cond.selects RX0 yX0_copyFrom yX0_copyFrom, Cond.initialized RX0, Cond.code yX0_copyFrom cX0_copyFrom 2 none, Cond.fieldLink RX0 36 "GoalLifts$Callers" "count" "I", Cond.fieldLink RX0 9 "GoalLifts$Callers" "floor" "[I", Cond.methodLink RX0 40 arraycopyName, Cond.fieldLink RX0 15 "GoalLifts$Callers" "goal" "[I", Cond.fieldLink RX0 18 "GoalLifts$Callers" "phase" "[I", Cond.fieldLink RX0 21 "GoalLifts$Callers" "given" "[I", Cond.fieldLink RX0 24 "GoalLifts$Callers" "calledAt" "[I", Cond.fieldLink RX0 27 "GoalLifts$Callers" "rodeAt" "[I", Cond.fieldLink RX0 30 "GoalLifts$Callers" "thereAt" "[I", Cond.fieldLink RX0 33 "GoalLifts$Callers" "timesGiven" "[I", Cond.methodLink RX2 26 yJ9_floorMod_7cf53, Cond.static yJ9_floorMod_7cf53, Cond.initialized RJ9, Cond.code yJ9_floorMod_7cf53 cJ9_floorMod_7cf53 3 (some .int), Cond.methodLink RX4 62 yX0_numberWith, Cond.instanceMethod yX0_numberWith, Cond.selects RX0 yX0_numberWith yX0_numberWith, Cond.code yX0_numberWith cX0_numberWith 2 (some .int), Cond.methodLink RX0 50 yX0_numberOf]
def wsX4_hold_r4 : List Cond := [Cond.instanceMethod yX0_numberOf, Cond.selects RX0 yX0_numberOf yX0_numberOf, Cond.code yX0_numberOf cX0_numberOf 5 (some .int)]
def wsX4_hold : List Cond := .code yX4_hold cX4_hold 5 (some .int) :: ((wsX4_hold_r1 ++ (wsX4_hold_r2 ++ (wsX4_hold_r3 ++ wsX4_hold_r4))) ++ wsX40 ++ wsX30 ++ wsX10 ++ wsX20 ++ wsX00)
def wsX4_fail_r1 : List Cond := [Cond.fieldLink RX4 10 "GoalLifts" "house" "LGoalLifts$House;", Cond.fieldLink RX4 30 "GoalLifts$House" "cars" "LGoalLifts$Cars;", Cond.fieldLink RX4 55 "GoalLifts$Cars" "state" "[I", Cond.fieldLink RX4 22 "GoalLifts" "history" "LGoalLifts$History;", Cond.fieldLink RX4 58 "GoalLifts$House" "callers" "LGoalLifts$Callers;", Cond.methodLink RX4 52 yX1_has, Cond.instanceMethod yX1_has, Cond.selects RX1 yX1_has yX1_has, Cond.initialized RX1, Cond.code yX1_has cX1_has 2 (some .boolean), Cond.fieldLink RX1 30 "GoalLifts$Cars" "count" "I", Cond.methodLink RX4 40 yX2_keep, Cond.instanceMethod yX2_keep, Cond.selects RX2 yX2_keep yX2_keep, Cond.initialized RX2, Cond.code yX2_keep cX2_keep 3 none, Cond.fieldLink RX2 11 "GoalLifts$History" "states" "[LGoalLifts$House;", Cond.fieldLink RX2 18 "GoalLifts$History" "next" "I", Cond.fieldLink RX2 32 "GoalLifts$History" "count" "I", Cond.methodLink RX2 35 Lib.Math.min.name, Cond.static Lib.Math.min.name, Cond.initialized "java/lang/Math", Cond.code Lib.Math.min.name Lib.Math.min.code 2 (some .int), Cond.methodLink RX2 22 yX3_copyFrom]
def wsX4_fail_r2 : List Cond := [Cond.instanceMethod yX3_copyFrom, Cond.selects RX3 yX3_copyFrom yX3_copyFrom, Cond.initialized RX3, Cond.code yX3_copyFrom cX3_copyFrom 2 none, Cond.fieldLink RX3 29 "GoalLifts$House" "tick" "I", Cond.fieldLink RX3 9 "GoalLifts$House" "awake" "[I", Cond.methodLink RX3 33 arraycopyName, Cond.native arraycopyName, Cond.static arraycopyName, Cond.initialized "java/lang/System", Cond.fieldLink RX3 18 "GoalLifts$House" "cars" "LGoalLifts$Cars;", Cond.fieldLink RX3 25 "GoalLifts$House" "callers" "LGoalLifts$Callers;", Cond.methodLink RX3 39 yX1_copyFrom, Cond.instanceMethod yX1_copyFrom, Cond.selects RX1 yX1_copyFrom yX1_copyFrom, Cond.code yX1_copyFrom cX1_copyFrom 2 none, Cond.fieldLink RX1 34 "GoalLifts$Cars" "stopsMade" "I", Cond.fieldLink RX1 9 "GoalLifts$Cars" "lowest" "[I", Cond.methodLink RX1 37 arraycopyName, Cond.fieldLink RX1 15 "GoalLifts$Cars" "highest" "[I", Cond.fieldLink RX1 18 "GoalLifts$Cars" "places" "[I", Cond.fieldLink RX1 21 "GoalLifts$Cars" "floor" "[I", Cond.fieldLink RX1 24 "GoalLifts$Cars" "state" "[I", Cond.fieldLink RX1 27 "GoalLifts$Cars" "travelled" "[I"]
def wsX4_fail_r3 : List Cond := [Cond.methodLink RX3 43 yX0_copyFrom, Cond.instanceMethod yX0_copyFrom, Cond.selects RX0 yX0_copyFrom yX0_copyFrom, Cond.initialized RX0, Cond.code yX0_copyFrom cX0_copyFrom 2 none, Cond.fieldLink RX0 36 "GoalLifts$Callers" "count" "I", Cond.fieldLink RX0 9 "GoalLifts$Callers" "floor" "[I", Cond.methodLink RX0 40 arraycopyName, Cond.fieldLink RX0 15 "GoalLifts$Callers" "goal" "[I", Cond.fieldLink RX0 18 "GoalLifts$Callers" "phase" "[I", Cond.fieldLink RX0 21 "GoalLifts$Callers" "given" "[I", Cond.fieldLink RX0 24 "GoalLifts$Callers" "calledAt" "[I", Cond.fieldLink RX0 27 "GoalLifts$Callers" "rodeAt" "[I", Cond.fieldLink RX0 30 "GoalLifts$Callers" "thereAt" "[I", Cond.fieldLink RX0 33 "GoalLifts$Callers" "timesGiven" "[I", Cond.methodLink RX2 26 yJ9_floorMod_7cf53, Cond.static yJ9_floorMod_7cf53, Cond.initialized RJ9, Cond.code yJ9_floorMod_7cf53 cJ9_floorMod_7cf53 3 (some .int), Cond.methodLink RX4 68 yX3_breakCar, Cond.instanceMethod yX3_breakCar, Cond.selects RX3 yX3_breakCar yX3_breakCar, Cond.code yX3_breakCar cX3_breakCar 2 none, Cond.fieldLink RX3 56 "GoalLifts$Cars" "state" "[I"]
def wsX4_fail_r4 : List Cond := [Cond.fieldLink RX3 67 "GoalLifts$Cars" "floor" "[I", Cond.methodLink RX3 134 yX0_loseCar, Cond.instanceMethod yX0_loseCar, Cond.selects RX0 yX0_loseCar yX0_loseCar, Cond.code yX0_loseCar cX0_loseCar 6 none, Cond.methodLink RX0 58 yX0_rides, Cond.instanceMethod yX0_rides, Cond.selects RX0 yX0_rides yX0_rides, Cond.code yX0_rides cX0_rides 3 (some .boolean), Cond.methodLink RX0 54 yX0_waitsFor, Cond.instanceMethod yX0_waitsFor, Cond.selects RX0 yX0_waitsFor yX0_waitsFor, Cond.code yX0_waitsFor cX0_waitsFor 3 (some .boolean), Cond.methodLink RX4 72 yX0_numberIn, Cond.instanceMethod yX0_numberIn, Cond.selects RX0 yX0_numberIn yX0_numberIn, Cond.code yX0_numberIn cX0_numberIn 4 (some .int)]
def wsX4_fail : List Cond := .code yX4_fail cX4_fail 2 (some .int) :: ((wsX4_fail_r1 ++ (wsX4_fail_r2 ++ (wsX4_fail_r3 ++ wsX4_fail_r4))) ++ wsX40 ++ wsX30 ++ wsX10 ++ wsX20 ++ wsX00)
def wsX4_repair_r1 : List Cond := [Cond.fieldLink RX4 10 "GoalLifts" "house" "LGoalLifts$House;", Cond.fieldLink RX4 30 "GoalLifts$House" "cars" "LGoalLifts$Cars;", Cond.fieldLink RX4 55 "GoalLifts$Cars" "state" "[I", Cond.fieldLink RX4 22 "GoalLifts" "history" "LGoalLifts$History;", Cond.fieldLink RX4 75 "GoalLifts$Cars" "floor" "[I", Cond.methodLink RX4 52 yX1_has, Cond.instanceMethod yX1_has, Cond.selects RX1 yX1_has yX1_has, Cond.initialized RX1, Cond.code yX1_has cX1_has 2 (some .boolean), Cond.fieldLink RX1 30 "GoalLifts$Cars" "count" "I", Cond.methodLink RX4 40 yX2_keep, Cond.instanceMethod yX2_keep, Cond.selects RX2 yX2_keep yX2_keep, Cond.initialized RX2, Cond.code yX2_keep cX2_keep 3 none, Cond.fieldLink RX2 11 "GoalLifts$History" "states" "[LGoalLifts$House;", Cond.fieldLink RX2 18 "GoalLifts$History" "next" "I", Cond.fieldLink RX2 32 "GoalLifts$History" "count" "I", Cond.methodLink RX2 35 Lib.Math.min.name, Cond.static Lib.Math.min.name, Cond.initialized "java/lang/Math", Cond.code Lib.Math.min.name Lib.Math.min.code 2 (some .int), Cond.methodLink RX2 22 yX3_copyFrom]
def wsX4_repair_r2 : List Cond := [Cond.instanceMethod yX3_copyFrom, Cond.selects RX3 yX3_copyFrom yX3_copyFrom, Cond.initialized RX3, Cond.code yX3_copyFrom cX3_copyFrom 2 none, Cond.fieldLink RX3 29 "GoalLifts$House" "tick" "I", Cond.fieldLink RX3 9 "GoalLifts$House" "awake" "[I", Cond.methodLink RX3 33 arraycopyName, Cond.native arraycopyName, Cond.static arraycopyName, Cond.initialized "java/lang/System", Cond.fieldLink RX3 18 "GoalLifts$House" "cars" "LGoalLifts$Cars;", Cond.fieldLink RX3 25 "GoalLifts$House" "callers" "LGoalLifts$Callers;", Cond.methodLink RX3 39 yX1_copyFrom, Cond.instanceMethod yX1_copyFrom, Cond.selects RX1 yX1_copyFrom yX1_copyFrom, Cond.code yX1_copyFrom cX1_copyFrom 2 none, Cond.fieldLink RX1 34 "GoalLifts$Cars" "stopsMade" "I", Cond.fieldLink RX1 9 "GoalLifts$Cars" "lowest" "[I", Cond.methodLink RX1 37 arraycopyName, Cond.fieldLink RX1 15 "GoalLifts$Cars" "highest" "[I", Cond.fieldLink RX1 18 "GoalLifts$Cars" "places" "[I", Cond.fieldLink RX1 21 "GoalLifts$Cars" "floor" "[I", Cond.fieldLink RX1 24 "GoalLifts$Cars" "state" "[I", Cond.fieldLink RX1 27 "GoalLifts$Cars" "travelled" "[I"]
def wsX4_repair_r3 : List Cond := [Cond.methodLink RX3 43 yX0_copyFrom, Cond.instanceMethod yX0_copyFrom, Cond.selects RX0 yX0_copyFrom yX0_copyFrom, Cond.initialized RX0, Cond.code yX0_copyFrom cX0_copyFrom 2 none, Cond.fieldLink RX0 36 "GoalLifts$Callers" "count" "I", Cond.fieldLink RX0 9 "GoalLifts$Callers" "floor" "[I", Cond.methodLink RX0 40 arraycopyName, Cond.fieldLink RX0 15 "GoalLifts$Callers" "goal" "[I", Cond.fieldLink RX0 18 "GoalLifts$Callers" "phase" "[I", Cond.fieldLink RX0 21 "GoalLifts$Callers" "given" "[I", Cond.fieldLink RX0 24 "GoalLifts$Callers" "calledAt" "[I", Cond.fieldLink RX0 27 "GoalLifts$Callers" "rodeAt" "[I", Cond.fieldLink RX0 30 "GoalLifts$Callers" "thereAt" "[I", Cond.fieldLink RX0 33 "GoalLifts$Callers" "timesGiven" "[I", Cond.methodLink RX2 26 yJ9_floorMod_7cf53, Cond.static yJ9_floorMod_7cf53, Cond.initialized RJ9, Cond.code yJ9_floorMod_7cf53 cJ9_floorMod_7cf53 3 (some .int)]
def wsX4_repair : List Cond := .code yX4_repair cX4_repair 2 (some .int) :: ((wsX4_repair_r1 ++ (wsX4_repair_r2 ++ wsX4_repair_r3)) ++ wsX40 ++ wsX30 ++ wsX10 ++ wsX20 ++ wsX00)
def wsX4_isWay : List Cond := .code yX4_isWay cX4_isWay 2 (some .boolean) :: ([.methodLink RX4 26 yX4_isFloor, .static yX4_isFloor, .initialized RX4, .code yX4_isFloor cX4_isFloor 1 (some .boolean)])
def wsX4_call_r1 : List Cond := [Cond.fieldLink RX4 10 "GoalLifts" "house" "LGoalLifts$House;", Cond.fieldLink RX4 58 "GoalLifts$House" "callers" "LGoalLifts$Callers;", Cond.fieldLink RX4 82 "GoalLifts$Callers" "count" "I", Cond.fieldLink RX4 22 "GoalLifts" "history" "LGoalLifts$History;", Cond.fieldLink RX4 87 "GoalLifts$House" "tick" "I", Cond.methodLink RX4 78 yX4_isWay, Cond.static yX4_isWay, Cond.initialized RX4, Cond.code yX4_isWay cX4_isWay 2 (some .boolean), Cond.methodLink RX4 26 yX4_isFloor, Cond.static yX4_isFloor, Cond.code yX4_isFloor cX4_isFloor 1 (some .boolean), Cond.methodLink RX4 40 yX2_keep, Cond.instanceMethod yX2_keep, Cond.selects RX2 yX2_keep yX2_keep, Cond.initialized RX2, Cond.code yX2_keep cX2_keep 3 none, Cond.fieldLink RX2 11 "GoalLifts$History" "states" "[LGoalLifts$House;", Cond.fieldLink RX2 18 "GoalLifts$History" "next" "I", Cond.fieldLink RX2 32 "GoalLifts$History" "count" "I", Cond.methodLink RX2 35 Lib.Math.min.name, Cond.static Lib.Math.min.name, Cond.initialized "java/lang/Math", Cond.code Lib.Math.min.name Lib.Math.min.code 2 (some .int)]
def wsX4_call_r2 : List Cond := [Cond.methodLink RX2 22 yX3_copyFrom, Cond.instanceMethod yX3_copyFrom, Cond.selects RX3 yX3_copyFrom yX3_copyFrom, Cond.initialized RX3, Cond.code yX3_copyFrom cX3_copyFrom 2 none, Cond.fieldLink RX3 29 "GoalLifts$House" "tick" "I", Cond.fieldLink RX3 9 "GoalLifts$House" "awake" "[I", Cond.methodLink RX3 33 arraycopyName, Cond.native arraycopyName, Cond.static arraycopyName, Cond.initialized "java/lang/System", Cond.fieldLink RX3 18 "GoalLifts$House" "cars" "LGoalLifts$Cars;", Cond.fieldLink RX3 25 "GoalLifts$House" "callers" "LGoalLifts$Callers;", Cond.methodLink RX3 39 yX1_copyFrom, Cond.instanceMethod yX1_copyFrom, Cond.selects RX1 yX1_copyFrom yX1_copyFrom, Cond.initialized RX1, Cond.code yX1_copyFrom cX1_copyFrom 2 none, Cond.fieldLink RX1 30 "GoalLifts$Cars" "count" "I", Cond.fieldLink RX1 34 "GoalLifts$Cars" "stopsMade" "I", Cond.fieldLink RX1 9 "GoalLifts$Cars" "lowest" "[I", Cond.methodLink RX1 37 arraycopyName, Cond.fieldLink RX1 15 "GoalLifts$Cars" "highest" "[I", Cond.fieldLink RX1 18 "GoalLifts$Cars" "places" "[I"]
def wsX4_call_r3 : List Cond := [Cond.fieldLink RX1 21 "GoalLifts$Cars" "floor" "[I", Cond.fieldLink RX1 24 "GoalLifts$Cars" "state" "[I", Cond.fieldLink RX1 27 "GoalLifts$Cars" "travelled" "[I", Cond.methodLink RX3 43 yX0_copyFrom, Cond.instanceMethod yX0_copyFrom, Cond.selects RX0 yX0_copyFrom yX0_copyFrom, Cond.initialized RX0, Cond.code yX0_copyFrom cX0_copyFrom 2 none, Cond.fieldLink RX0 36 "GoalLifts$Callers" "count" "I", Cond.fieldLink RX0 9 "GoalLifts$Callers" "floor" "[I", Cond.methodLink RX0 40 arraycopyName, Cond.fieldLink RX0 15 "GoalLifts$Callers" "goal" "[I", Cond.fieldLink RX0 18 "GoalLifts$Callers" "phase" "[I", Cond.fieldLink RX0 21 "GoalLifts$Callers" "given" "[I", Cond.fieldLink RX0 24 "GoalLifts$Callers" "calledAt" "[I", Cond.fieldLink RX0 27 "GoalLifts$Callers" "rodeAt" "[I", Cond.fieldLink RX0 30 "GoalLifts$Callers" "thereAt" "[I", Cond.fieldLink RX0 33 "GoalLifts$Callers" "timesGiven" "[I", Cond.methodLink RX2 26 yJ9_floorMod_7cf53, Cond.static yJ9_floorMod_7cf53, Cond.initialized RJ9, Cond.code yJ9_floorMod_7cf53 cJ9_floorMod_7cf53 3 (some .int), Cond.methodLink RX4 83 yX3_bestCar, Cond.instanceMethod yX3_bestCar]
def wsX4_call_r4 : List Cond := [Cond.selects RX3 yX3_bestCar yX3_bestCar, Cond.code yX3_bestCar cX3_bestCar 7 (some .int), Cond.fieldLink RX3 85 "GoalLifts$Cars" "count" "I", Cond.methodLink RX3 88 yX3_canBeGiven, Cond.instanceMethod yX3_canBeGiven, Cond.selects RX3 yX3_canBeGiven yX3_canBeGiven, Cond.code yX3_canBeGiven cX3_canBeGiven 4 (some .boolean), Cond.fieldLink RX3 56 "GoalLifts$Cars" "state" "[I", Cond.methodLink RX3 59 yX3_isAwake, Cond.instanceMethod yX3_isAwake, Cond.selects RX3 yX3_isAwake yX3_isAwake, Cond.code yX3_isAwake cX3_isAwake 2 (some .boolean), Cond.methodLink RX3 52 yX3_hour, Cond.instanceMethod yX3_hour, Cond.selects RX3 yX3_hour yX3_hour, Cond.code yX3_hour cX3_hour 1 (some .int), Cond.methodLink RX3 46 yJ9_floorMod_7cf53, Cond.methodLink RX3 63 yX1_serves, Cond.instanceMethod yX1_serves, Cond.selects RX1 yX1_serves yX1_serves, Cond.code yX1_serves cX1_serves 3 (some .boolean), Cond.methodLink RX3 92 yX3_costOf, Cond.instanceMethod yX3_costOf, Cond.selects RX3 yX3_costOf yX3_costOf]
def wsX4_call_r5 : List Cond := [Cond.code yX3_costOf cX3_costOf 6 (some .int), Cond.fieldLink RX3 67 "GoalLifts$Cars" "floor" "[I", Cond.methodLink RX3 70 Lib.Math.abs.name, Cond.static Lib.Math.abs.name, Cond.code Lib.Math.abs.name Lib.Math.abs.code 1 (some .int), Cond.methodLink RX3 74 yX0_stopsOf, Cond.instanceMethod yX0_stopsOf, Cond.selects RX0 yX0_stopsOf yX0_stopsOf, Cond.code yX0_stopsOf cX0_stopsOf 4 (some .int), Cond.methodLink RX0 54 yX0_waitsFor, Cond.instanceMethod yX0_waitsFor, Cond.selects RX0 yX0_waitsFor yX0_waitsFor, Cond.code yX0_waitsFor cX0_waitsFor 3 (some .boolean), Cond.methodLink RX0 58 yX0_rides, Cond.instanceMethod yX0_rides, Cond.selects RX0 yX0_rides yX0_rides, Cond.code yX0_rides cX0_rides 3 (some .boolean), Cond.methodLink RX3 77 yJ6_bitCount_0f7a4, Cond.static yJ6_bitCount_0f7a4, Cond.initialized RJ6, Cond.code yJ6_bitCount_0f7a4 cJ6_bitCount_0f7a4 1 (some .int), Cond.constant RJ6 265 (1431655765), Cond.constant RJ6 266 (858993459), Cond.constant RJ6 267 (252645135)]
def wsX4_call_r6 : List Cond := [Cond.methodLink RX3 82 yX0_numberWith, Cond.instanceMethod yX0_numberWith, Cond.selects RX0 yX0_numberWith yX0_numberWith, Cond.code yX0_numberWith cX0_numberWith 2 (some .int), Cond.methodLink RX0 50 yX0_numberOf, Cond.instanceMethod yX0_numberOf, Cond.selects RX0 yX0_numberOf yX0_numberOf, Cond.code yX0_numberOf cX0_numberOf 5 (some .int), Cond.methodLink RX4 90 yX0_add, Cond.instanceMethod yX0_add, Cond.selects RX0 yX0_add yX0_add, Cond.code yX0_add cX0_add 5 (some .int), Cond.methodLink RX4 91 yX0_give, Cond.instanceMethod yX0_give, Cond.selects RX0 yX0_give yX0_give, Cond.code yX0_give cX0_give 3 none, Cond.methodLink RX0 46 yX0_has, Cond.instanceMethod yX0_has, Cond.selects RX0 yX0_has yX0_has, Cond.code yX0_has cX0_has 2 (some .boolean)]
def wsX4_call : List Cond := .code yX4_call cX4_call 5 (some .int) :: ((wsX4_call_r1 ++ (wsX4_call_r2 ++ (wsX4_call_r3 ++ (wsX4_call_r4 ++ (wsX4_call_r5 ++ wsX4_call_r6))))) ++ wsX40 ++ wsX30 ++ wsX00 ++ wsX20 ++ wsX10)
def wsX4_pass_r1 : List Cond := [Cond.fieldLink RX4 10 "GoalLifts" "house" "LGoalLifts$House;", Cond.fieldLink RX4 87 "GoalLifts$House" "tick" "I", Cond.fieldLink RX4 22 "GoalLifts" "history" "LGoalLifts$History;", Cond.fieldLink RX4 58 "GoalLifts$House" "callers" "LGoalLifts$Callers;", Cond.methodLink RX4 40 yX2_keep, Cond.instanceMethod yX2_keep, Cond.selects RX2 yX2_keep yX2_keep, Cond.initialized RX2, Cond.code yX2_keep cX2_keep 3 none, Cond.fieldLink RX2 11 "GoalLifts$History" "states" "[LGoalLifts$House;", Cond.fieldLink RX2 18 "GoalLifts$History" "next" "I", Cond.fieldLink RX2 32 "GoalLifts$History" "count" "I", Cond.methodLink RX2 35 Lib.Math.min.name, Cond.static Lib.Math.min.name, Cond.initialized "java/lang/Math", Cond.code Lib.Math.min.name Lib.Math.min.code 2 (some .int), Cond.methodLink RX2 22 yX3_copyFrom, Cond.instanceMethod yX3_copyFrom, Cond.selects RX3 yX3_copyFrom yX3_copyFrom, Cond.initialized RX3, Cond.code yX3_copyFrom cX3_copyFrom 2 none, Cond.fieldLink RX3 29 "GoalLifts$House" "tick" "I", Cond.fieldLink RX3 9 "GoalLifts$House" "awake" "[I", Cond.methodLink RX3 33 arraycopyName]
def wsX4_pass_r2 : List Cond := [Cond.native arraycopyName, Cond.static arraycopyName, Cond.initialized "java/lang/System", Cond.fieldLink RX3 18 "GoalLifts$House" "cars" "LGoalLifts$Cars;", Cond.fieldLink RX3 25 "GoalLifts$House" "callers" "LGoalLifts$Callers;", Cond.methodLink RX3 39 yX1_copyFrom, Cond.instanceMethod yX1_copyFrom, Cond.selects RX1 yX1_copyFrom yX1_copyFrom, Cond.initialized RX1, Cond.code yX1_copyFrom cX1_copyFrom 2 none, Cond.fieldLink RX1 30 "GoalLifts$Cars" "count" "I", Cond.fieldLink RX1 34 "GoalLifts$Cars" "stopsMade" "I", Cond.fieldLink RX1 9 "GoalLifts$Cars" "lowest" "[I", Cond.methodLink RX1 37 arraycopyName, Cond.fieldLink RX1 15 "GoalLifts$Cars" "highest" "[I", Cond.fieldLink RX1 18 "GoalLifts$Cars" "places" "[I", Cond.fieldLink RX1 21 "GoalLifts$Cars" "floor" "[I", Cond.fieldLink RX1 24 "GoalLifts$Cars" "state" "[I", Cond.fieldLink RX1 27 "GoalLifts$Cars" "travelled" "[I", Cond.methodLink RX3 43 yX0_copyFrom, Cond.instanceMethod yX0_copyFrom, Cond.selects RX0 yX0_copyFrom yX0_copyFrom, Cond.initialized RX0, Cond.code yX0_copyFrom cX0_copyFrom 2 none]
def wsX4_pass_r3 : List Cond := [Cond.fieldLink RX0 36 "GoalLifts$Callers" "count" "I", Cond.fieldLink RX0 9 "GoalLifts$Callers" "floor" "[I", Cond.methodLink RX0 40 arraycopyName, Cond.fieldLink RX0 15 "GoalLifts$Callers" "goal" "[I", Cond.fieldLink RX0 18 "GoalLifts$Callers" "phase" "[I", Cond.fieldLink RX0 21 "GoalLifts$Callers" "given" "[I", Cond.fieldLink RX0 24 "GoalLifts$Callers" "calledAt" "[I", Cond.fieldLink RX0 27 "GoalLifts$Callers" "rodeAt" "[I", Cond.fieldLink RX0 30 "GoalLifts$Callers" "thereAt" "[I", Cond.fieldLink RX0 33 "GoalLifts$Callers" "timesGiven" "[I", Cond.methodLink RX2 26 yJ9_floorMod_7cf53, Cond.static yJ9_floorMod_7cf53, Cond.initialized RJ9, Cond.code yJ9_floorMod_7cf53 cJ9_floorMod_7cf53 3 (some .int), Cond.methodLink RX4 95 yX3_oneTick, Cond.instanceMethod yX3_oneTick, Cond.selects RX3 yX3_oneTick yX3_oneTick, Cond.code yX3_oneTick cX3_oneTick 2 none, Cond.fieldLink RX3 96 "GoalLifts$Callers" "count" "I", Cond.fieldLink RX3 97 "GoalLifts$Callers" "phase" "[I", Cond.fieldLink RX3 100 "GoalLifts$Callers" "floor" "[I", Cond.fieldLink RX3 101 "GoalLifts$Callers" "goal" "[I", Cond.fieldLink RX3 85 "GoalLifts$Cars" "count" "I", Cond.fieldLink RX3 56 "GoalLifts$Cars" "state" "[I"]
def wsX4_pass_r4 : List Cond := [Cond.methodLink RX3 104 yX3_bestCar, Cond.instanceMethod yX3_bestCar, Cond.selects RX3 yX3_bestCar yX3_bestCar, Cond.code yX3_bestCar cX3_bestCar 7 (some .int), Cond.methodLink RX3 88 yX3_canBeGiven, Cond.instanceMethod yX3_canBeGiven, Cond.selects RX3 yX3_canBeGiven yX3_canBeGiven, Cond.code yX3_canBeGiven cX3_canBeGiven 4 (some .boolean), Cond.methodLink RX3 59 yX3_isAwake, Cond.instanceMethod yX3_isAwake, Cond.selects RX3 yX3_isAwake yX3_isAwake, Cond.code yX3_isAwake cX3_isAwake 2 (some .boolean), Cond.methodLink RX3 52 yX3_hour, Cond.instanceMethod yX3_hour, Cond.selects RX3 yX3_hour yX3_hour, Cond.code yX3_hour cX3_hour 1 (some .int), Cond.methodLink RX3 46 yJ9_floorMod_7cf53, Cond.methodLink RX3 63 yX1_serves, Cond.instanceMethod yX1_serves, Cond.selects RX1 yX1_serves yX1_serves, Cond.code yX1_serves cX1_serves 3 (some .boolean), Cond.methodLink RX3 92 yX3_costOf, Cond.instanceMethod yX3_costOf, Cond.selects RX3 yX3_costOf yX3_costOf]
def wsX4_pass_r5 : List Cond := [Cond.code yX3_costOf cX3_costOf 6 (some .int), Cond.fieldLink RX3 67 "GoalLifts$Cars" "floor" "[I", Cond.methodLink RX3 70 Lib.Math.abs.name, Cond.static Lib.Math.abs.name, Cond.code Lib.Math.abs.name Lib.Math.abs.code 1 (some .int), Cond.methodLink RX3 74 yX0_stopsOf, Cond.instanceMethod yX0_stopsOf, Cond.selects RX0 yX0_stopsOf yX0_stopsOf, Cond.code yX0_stopsOf cX0_stopsOf 4 (some .int), Cond.methodLink RX0 54 yX0_waitsFor, Cond.instanceMethod yX0_waitsFor, Cond.selects RX0 yX0_waitsFor yX0_waitsFor, Cond.code yX0_waitsFor cX0_waitsFor 3 (some .boolean), Cond.methodLink RX0 58 yX0_rides, Cond.instanceMethod yX0_rides, Cond.selects RX0 yX0_rides yX0_rides, Cond.code yX0_rides cX0_rides 3 (some .boolean), Cond.methodLink RX3 77 yJ6_bitCount_0f7a4, Cond.static yJ6_bitCount_0f7a4, Cond.initialized RJ6, Cond.code yJ6_bitCount_0f7a4 cJ6_bitCount_0f7a4 1 (some .int), Cond.constant RJ6 265 (1431655765), Cond.constant RJ6 266 (858993459), Cond.constant RJ6 267 (252645135)]
def wsX4_pass_r6 : List Cond := [Cond.methodLink RX3 82 yX0_numberWith, Cond.instanceMethod yX0_numberWith, Cond.selects RX0 yX0_numberWith yX0_numberWith, Cond.code yX0_numberWith cX0_numberWith 2 (some .int), Cond.methodLink RX0 50 yX0_numberOf, Cond.instanceMethod yX0_numberOf, Cond.selects RX0 yX0_numberOf yX0_numberOf, Cond.code yX0_numberOf cX0_numberOf 5 (some .int), Cond.methodLink RX3 107 yX0_give, Cond.instanceMethod yX0_give, Cond.selects RX0 yX0_give yX0_give, Cond.code yX0_give cX0_give 3 none, Cond.methodLink RX0 46 yX0_has, Cond.instanceMethod yX0_has, Cond.selects RX0 yX0_has yX0_has, Cond.code yX0_has cX0_has 2 (some .boolean), Cond.methodLink RX3 111 yX3_stopOrTravel, Cond.instanceMethod yX3_stopOrTravel, Cond.selects RX3 yX3_stopOrTravel yX3_stopOrTravel, Cond.code yX3_stopOrTravel cX3_stopOrTravel 6 none, Cond.fieldLink RX3 118 "GoalLifts$Cars" "places" "[I", Cond.fieldLink RX3 125 "GoalLifts$Cars" "stopsMade" "I", Cond.methodLink RX3 115 yX0_letOut, Cond.instanceMethod yX0_letOut]
def wsX4_pass_r7 : List Cond := [Cond.selects RX0 yX0_letOut yX0_letOut, Cond.code yX0_letOut cX0_letOut 6 (some .int), Cond.methodLink RX3 121 yX0_takeIn, Cond.instanceMethod yX0_takeIn, Cond.selects RX0 yX0_takeIn yX0_takeIn, Cond.code yX0_takeIn cX0_takeIn 8 (some .int), Cond.methodLink RX3 128 yX0_aimOf, Cond.instanceMethod yX0_aimOf, Cond.selects RX0 yX0_aimOf yX0_aimOf, Cond.code yX0_aimOf cX0_aimOf 6 (some .int), Cond.methodLink RX0 61 yX0_isNearer, Cond.static yX0_isNearer, Cond.code yX0_isNearer cX0_isNearer 5 (some .boolean), Cond.methodLink RX0 65 Lib.Math.abs.name, Cond.methodLink RX3 131 yX1_travelTowards, Cond.instanceMethod yX1_travelTowards, Cond.selects RX1 yX1_travelTowards yX1_travelTowards, Cond.code yX1_travelTowards cX1_travelTowards 3 none, Cond.methodLink RX4 72 yX0_numberIn, Cond.instanceMethod yX0_numberIn, Cond.selects RX0 yX0_numberIn yX0_numberIn, Cond.code yX0_numberIn cX0_numberIn 4 (some .int)]
def wsX4_pass : List Cond := .code yX4_pass cX4_pass 3 (some .int) :: ((wsX4_pass_r1 ++ (wsX4_pass_r2 ++ (wsX4_pass_r3 ++ (wsX4_pass_r4 ++ (wsX4_pass_r5 ++ (wsX4_pass_r6 ++ wsX4_pass_r7)))))) ++ wsX40 ++ wsX30 ++ wsX20 ++ wsX10 ++ wsX00)
def wsX4_undo_r1 : List Cond := [Cond.fieldLink RX4 22 "GoalLifts" "history" "LGoalLifts$History;", Cond.fieldLink RX4 98 "GoalLifts$History" "count" "I", Cond.fieldLink RX4 10 "GoalLifts" "house" "LGoalLifts$House;", Cond.methodLink RX4 99 yX2_restore, Cond.instanceMethod yX2_restore, Cond.selects RX2 yX2_restore yX2_restore, Cond.initialized RX2, Cond.code yX2_restore cX2_restore 4 none, Cond.fieldLink RX2 18 "GoalLifts$History" "next" "I", Cond.fieldLink RX2 11 "GoalLifts$History" "states" "[LGoalLifts$House;", Cond.fieldLink RX2 32 "GoalLifts$History" "count" "I", Cond.methodLink RX2 26 yJ9_floorMod_7cf53, Cond.static yJ9_floorMod_7cf53, Cond.initialized RJ9, Cond.code yJ9_floorMod_7cf53 cJ9_floorMod_7cf53 3 (some .int), Cond.methodLink RX2 22 yX3_copyFrom, Cond.instanceMethod yX3_copyFrom, Cond.selects RX3 yX3_copyFrom yX3_copyFrom, Cond.initialized RX3, Cond.code yX3_copyFrom cX3_copyFrom 2 none, Cond.fieldLink RX3 29 "GoalLifts$House" "tick" "I", Cond.fieldLink RX3 9 "GoalLifts$House" "awake" "[I", Cond.methodLink RX3 33 arraycopyName, Cond.native arraycopyName]
def wsX4_undo_r2 : List Cond := [Cond.static arraycopyName, Cond.initialized "java/lang/System", Cond.fieldLink RX3 18 "GoalLifts$House" "cars" "LGoalLifts$Cars;", Cond.fieldLink RX3 25 "GoalLifts$House" "callers" "LGoalLifts$Callers;", Cond.methodLink RX3 39 yX1_copyFrom, Cond.instanceMethod yX1_copyFrom, Cond.selects RX1 yX1_copyFrom yX1_copyFrom, Cond.initialized RX1, Cond.code yX1_copyFrom cX1_copyFrom 2 none, Cond.fieldLink RX1 30 "GoalLifts$Cars" "count" "I", Cond.fieldLink RX1 34 "GoalLifts$Cars" "stopsMade" "I", Cond.fieldLink RX1 9 "GoalLifts$Cars" "lowest" "[I", Cond.methodLink RX1 37 arraycopyName, Cond.fieldLink RX1 15 "GoalLifts$Cars" "highest" "[I", Cond.fieldLink RX1 18 "GoalLifts$Cars" "places" "[I", Cond.fieldLink RX1 21 "GoalLifts$Cars" "floor" "[I", Cond.fieldLink RX1 24 "GoalLifts$Cars" "state" "[I", Cond.fieldLink RX1 27 "GoalLifts$Cars" "travelled" "[I", Cond.methodLink RX3 43 yX0_copyFrom, Cond.instanceMethod yX0_copyFrom, Cond.selects RX0 yX0_copyFrom yX0_copyFrom, Cond.initialized RX0, Cond.code yX0_copyFrom cX0_copyFrom 2 none, Cond.fieldLink RX0 36 "GoalLifts$Callers" "count" "I"]
def wsX4_undo_r3 : List Cond := [Cond.fieldLink RX0 9 "GoalLifts$Callers" "floor" "[I", Cond.methodLink RX0 40 arraycopyName, Cond.fieldLink RX0 15 "GoalLifts$Callers" "goal" "[I", Cond.fieldLink RX0 18 "GoalLifts$Callers" "phase" "[I", Cond.fieldLink RX0 21 "GoalLifts$Callers" "given" "[I", Cond.fieldLink RX0 24 "GoalLifts$Callers" "calledAt" "[I", Cond.fieldLink RX0 27 "GoalLifts$Callers" "rodeAt" "[I", Cond.fieldLink RX0 30 "GoalLifts$Callers" "thereAt" "[I", Cond.fieldLink RX0 33 "GoalLifts$Callers" "timesGiven" "[I"]
def wsX4_undo : List Cond := .code yX4_undo cX4_undo 1 (some .int) :: ((wsX4_undo_r1 ++ (wsX4_undo_r2 ++ wsX4_undo_r3)) ++ wsX40 ++ wsX20 ++ wsX30 ++ wsX10 ++ wsX00)
def wsX4_count_r1 : List Cond := [Cond.fieldLink RX4 10 "GoalLifts" "house" "LGoalLifts$House;", Cond.fieldLink RX4 87 "GoalLifts$House" "tick" "I", Cond.fieldLink RX4 30 "GoalLifts$House" "cars" "LGoalLifts$Cars;", Cond.fieldLink RX4 34 "GoalLifts$Cars" "count" "I", Cond.fieldLink RX4 58 "GoalLifts$House" "callers" "LGoalLifts$Callers;", Cond.fieldLink RX4 82 "GoalLifts$Callers" "count" "I", Cond.fieldLink RX4 112 "GoalLifts$Cars" "stopsMade" "I", Cond.fieldLink RX4 22 "GoalLifts" "history" "LGoalLifts$History;", Cond.fieldLink RX4 98 "GoalLifts$History" "count" "I", Cond.methodLink RX4 102 yX3_hour, Cond.instanceMethod yX3_hour, Cond.selects RX3 yX3_hour yX3_hour, Cond.initialized RX3, Cond.code yX3_hour cX3_hour 1 (some .int), Cond.fieldLink RX3 29 "GoalLifts$House" "tick" "I", Cond.methodLink RX3 46 yJ9_floorMod_7cf53, Cond.static yJ9_floorMod_7cf53, Cond.initialized RJ9, Cond.code yJ9_floorMod_7cf53 cJ9_floorMod_7cf53 3 (some .int), Cond.methodLink RX4 72 yX0_numberIn, Cond.instanceMethod yX0_numberIn, Cond.selects RX0 yX0_numberIn yX0_numberIn, Cond.initialized RX0, Cond.code yX0_numberIn cX0_numberIn 4 (some .int)]
def wsX4_count_r2 : List Cond := [Cond.fieldLink RX0 36 "GoalLifts$Callers" "count" "I", Cond.fieldLink RX0 18 "GoalLifts$Callers" "phase" "[I", Cond.methodLink RX4 106 yX0_numberOfGroups, Cond.instanceMethod yX0_numberOfGroups, Cond.selects RX0 yX0_numberOfGroups yX0_numberOfGroups, Cond.code yX0_numberOfGroups cX0_numberOfGroups 3 (some .int), Cond.methodLink RX0 77 yX0_isFirstOfGroup, Cond.instanceMethod yX0_isFirstOfGroup, Cond.selects RX0 yX0_isFirstOfGroup yX0_isFirstOfGroup, Cond.code yX0_isFirstOfGroup cX0_isFirstOfGroup 3 (some .boolean), Cond.methodLink RX0 74 yX0_sameGroup, Cond.instanceMethod yX0_sameGroup, Cond.selects RX0 yX0_sameGroup yX0_sameGroup, Cond.code yX0_sameGroup cX0_sameGroup 3 (some .boolean), Cond.fieldLink RX0 9 "GoalLifts$Callers" "floor" "[I", Cond.fieldLink RX0 15 "GoalLifts$Callers" "goal" "[I", Cond.methodLink RX0 71 yX0_isInGroup, Cond.instanceMethod yX0_isInGroup, Cond.selects RX0 yX0_isInGroup yX0_isInGroup, Cond.code yX0_isInGroup cX0_isInGroup 2 (some .boolean), Cond.methodLink RX4 109 yX1_travelledByAll, Cond.instanceMethod yX1_travelledByAll, Cond.selects RX1 yX1_travelledByAll yX1_travelledByAll, Cond.initialized RX1]
def wsX4_count_r3 : List Cond := [Cond.code yX1_travelledByAll cX1_travelledByAll 3 (some .int), Cond.fieldLink RX1 30 "GoalLifts$Cars" "count" "I", Cond.fieldLink RX1 27 "GoalLifts$Cars" "travelled" "[I", Cond.methodLink RX4 115 yX1_numberIn, Cond.instanceMethod yX1_numberIn, Cond.selects RX1 yX1_numberIn yX1_numberIn, Cond.code yX1_numberIn cX1_numberIn 4 (some .int), Cond.fieldLink RX1 24 "GoalLifts$Cars" "state" "[I"]
def wsX4_count : List Cond := .code yX4_count cX4_count 2 (some .int) :: ((wsX4_count_r1 ++ (wsX4_count_r2 ++ wsX4_count_r3)) ++ wsX40 ++ wsX30 ++ wsX10 ++ wsX00 ++ wsX20)
def wsX4_car_r1 : List Cond := [Cond.fieldLink RX4 10 "GoalLifts" "house" "LGoalLifts$House;", Cond.fieldLink RX4 30 "GoalLifts$House" "cars" "LGoalLifts$Cars;", Cond.fieldLink RX4 75 "GoalLifts$Cars" "floor" "[I", Cond.fieldLink RX4 55 "GoalLifts$Cars" "state" "[I", Cond.fieldLink RX4 58 "GoalLifts$House" "callers" "LGoalLifts$Callers;", Cond.fieldLink RX4 130 "GoalLifts$Cars" "travelled" "[I", Cond.methodLink RX4 52 yX1_has, Cond.instanceMethod yX1_has, Cond.selects RX1 yX1_has yX1_has, Cond.initialized RX1, Cond.code yX1_has cX1_has 2 (some .boolean), Cond.fieldLink RX1 30 "GoalLifts$Cars" "count" "I", Cond.methodLink RX4 116 yX0_numberOf, Cond.instanceMethod yX0_numberOf, Cond.selects RX0 yX0_numberOf yX0_numberOf, Cond.initialized RX0, Cond.code yX0_numberOf cX0_numberOf 5 (some .int), Cond.fieldLink RX0 36 "GoalLifts$Callers" "count" "I", Cond.fieldLink RX0 18 "GoalLifts$Callers" "phase" "[I", Cond.fieldLink RX0 21 "GoalLifts$Callers" "given" "[I", Cond.methodLink RX4 119 yX0_stopsOf, Cond.instanceMethod yX0_stopsOf, Cond.selects RX0 yX0_stopsOf yX0_stopsOf, Cond.code yX0_stopsOf cX0_stopsOf 4 (some .int)]
def wsX4_car_r2 : List Cond := [Cond.fieldLink RX0 9 "GoalLifts$Callers" "floor" "[I", Cond.fieldLink RX0 15 "GoalLifts$Callers" "goal" "[I", Cond.methodLink RX0 54 yX0_waitsFor, Cond.instanceMethod yX0_waitsFor, Cond.selects RX0 yX0_waitsFor yX0_waitsFor, Cond.code yX0_waitsFor cX0_waitsFor 3 (some .boolean), Cond.methodLink RX0 58 yX0_rides, Cond.instanceMethod yX0_rides, Cond.selects RX0 yX0_rides yX0_rides, Cond.code yX0_rides cX0_rides 3 (some .boolean), Cond.methodLink RX4 122 yJ6_bitCount_0f7a4, Cond.static yJ6_bitCount_0f7a4, Cond.initialized RJ6, Cond.code yJ6_bitCount_0f7a4 cJ6_bitCount_0f7a4 1 (some .int), Cond.constant RJ6 265 (1431655765), Cond.constant RJ6 266 (858993459), Cond.constant RJ6 267 (252645135), Cond.methodLink RX4 127 yX0_aimOf, Cond.instanceMethod yX0_aimOf, Cond.selects RX0 yX0_aimOf yX0_aimOf, Cond.code yX0_aimOf cX0_aimOf 6 (some .int), Cond.methodLink RX0 61 yX0_isNearer, Cond.static yX0_isNearer, Cond.code yX0_isNearer cX0_isNearer 5 (some .boolean)]
def wsX4_car_r3 : List Cond := [Cond.methodLink RX0 65 Lib.Math.abs.name, Cond.static Lib.Math.abs.name, Cond.initialized "java/lang/Math", Cond.code Lib.Math.abs.name Lib.Math.abs.code 1 (some .int), Cond.methodLink RX4 133 yX3_isAwake, Cond.instanceMethod yX3_isAwake, Cond.selects RX3 yX3_isAwake yX3_isAwake, Cond.initialized RX3, Cond.code yX3_isAwake cX3_isAwake 2 (some .boolean), Cond.fieldLink RX3 9 "GoalLifts$House" "awake" "[I", Cond.methodLink RX3 52 yX3_hour, Cond.instanceMethod yX3_hour, Cond.selects RX3 yX3_hour yX3_hour, Cond.code yX3_hour cX3_hour 1 (some .int), Cond.fieldLink RX3 29 "GoalLifts$House" "tick" "I", Cond.methodLink RX3 46 yJ9_floorMod_7cf53, Cond.static yJ9_floorMod_7cf53, Cond.initialized RJ9, Cond.code yJ9_floorMod_7cf53 cJ9_floorMod_7cf53 3 (some .int)]
def wsX4_car : List Cond := .code yX4_car cX4_car 3 (some .int) :: ((wsX4_car_r1 ++ (wsX4_car_r2 ++ wsX4_car_r3)) ++ wsX40 ++ wsX30 ++ wsX10 ++ wsX00)
def wsX4_caller : List Cond := .code yX4_caller cX4_caller 3 (some .int) :: ([.fieldLink RX4 10 "GoalLifts" "house" "LGoalLifts$House;", .fieldLink RX4 58 "GoalLifts$House" "callers" "LGoalLifts$Callers;", .fieldLink RX4 137 "GoalLifts$Callers" "floor" "[I", .fieldLink RX4 138 "GoalLifts$Callers" "goal" "[I", .fieldLink RX4 141 "GoalLifts$Callers" "phase" "[I", .fieldLink RX4 144 "GoalLifts$Callers" "given" "[I", .fieldLink RX4 147 "GoalLifts$Callers" "calledAt" "[I", .fieldLink RX4 150 "GoalLifts$Callers" "rodeAt" "[I", .fieldLink RX4 153 "GoalLifts$Callers" "thereAt" "[I", .fieldLink RX4 156 "GoalLifts$Callers" "timesGiven" "[I", .methodLink RX4 136 yX0_has, .instanceMethod yX0_has, .selects RX0 yX0_has yX0_has, .initialized RX0, .code yX0_has cX0_has 2 (some .boolean), .fieldLink RX0 36 "GoalLifts$Callers" "count" "I"] ++ wsX40 ++ wsX30 ++ wsX00)
def wsX4_group_r1 : List Cond := [Cond.fieldLink RX4 10 "GoalLifts" "house" "LGoalLifts$House;", Cond.fieldLink RX4 58 "GoalLifts$House" "callers" "LGoalLifts$Callers;", Cond.fieldLink RX4 137 "GoalLifts$Callers" "floor" "[I", Cond.fieldLink RX4 138 "GoalLifts$Callers" "goal" "[I", Cond.methodLink RX4 159 yX0_firstOfGroup, Cond.instanceMethod yX0_firstOfGroup, Cond.selects RX0 yX0_firstOfGroup yX0_firstOfGroup, Cond.initialized RX0, Cond.code yX0_firstOfGroup cX0_firstOfGroup 4 (some .int), Cond.fieldLink RX0 36 "GoalLifts$Callers" "count" "I", Cond.methodLink RX0 77 yX0_isFirstOfGroup, Cond.instanceMethod yX0_isFirstOfGroup, Cond.selects RX0 yX0_isFirstOfGroup yX0_isFirstOfGroup, Cond.code yX0_isFirstOfGroup cX0_isFirstOfGroup 3 (some .boolean), Cond.methodLink RX0 74 yX0_sameGroup, Cond.instanceMethod yX0_sameGroup, Cond.selects RX0 yX0_sameGroup yX0_sameGroup, Cond.code yX0_sameGroup cX0_sameGroup 3 (some .boolean), Cond.fieldLink RX0 9 "GoalLifts$Callers" "floor" "[I", Cond.fieldLink RX0 15 "GoalLifts$Callers" "goal" "[I", Cond.methodLink RX0 71 yX0_isInGroup, Cond.instanceMethod yX0_isInGroup, Cond.selects RX0 yX0_isInGroup yX0_isInGroup, Cond.code yX0_isInGroup cX0_isInGroup 2 (some .boolean)]
def wsX4_group_r2 : List Cond := [Cond.fieldLink RX0 18 "GoalLifts$Callers" "phase" "[I", Cond.methodLink RX4 136 yX0_has, Cond.instanceMethod yX0_has, Cond.selects RX0 yX0_has yX0_has, Cond.code yX0_has cX0_has 2 (some .boolean), Cond.methodLink RX4 162 yX0_sizeOfGroup, Cond.instanceMethod yX0_sizeOfGroup, Cond.selects RX0 yX0_sizeOfGroup yX0_sizeOfGroup, Cond.code yX0_sizeOfGroup cX0_sizeOfGroup 4 (some .int)]
def wsX4_group : List Cond := .code yX4_group cX4_group 4 (some .int) :: ((wsX4_group_r1 ++ wsX4_group_r2) ++ wsX40 ++ wsX30 ++ wsX00)
def wsX4_cost_r1 : List Cond := [Cond.fieldLink RX4 10 "GoalLifts" "house" "LGoalLifts$House;", Cond.fieldLink RX4 30 "GoalLifts$House" "cars" "LGoalLifts$Cars;", Cond.methodLink RX4 52 yX1_has, Cond.instanceMethod yX1_has, Cond.selects RX1 yX1_has yX1_has, Cond.initialized RX1, Cond.code yX1_has cX1_has 2 (some .boolean), Cond.fieldLink RX1 30 "GoalLifts$Cars" "count" "I", Cond.methodLink RX4 78 yX4_isWay, Cond.static yX4_isWay, Cond.initialized RX4, Cond.code yX4_isWay cX4_isWay 2 (some .boolean), Cond.methodLink RX4 26 yX4_isFloor, Cond.static yX4_isFloor, Cond.code yX4_isFloor cX4_isFloor 1 (some .boolean), Cond.methodLink RX4 165 yX3_canBeGiven, Cond.instanceMethod yX3_canBeGiven, Cond.selects RX3 yX3_canBeGiven yX3_canBeGiven, Cond.initialized RX3, Cond.code yX3_canBeGiven cX3_canBeGiven 4 (some .boolean), Cond.fieldLink RX3 18 "GoalLifts$House" "cars" "LGoalLifts$Cars;", Cond.fieldLink RX3 56 "GoalLifts$Cars" "state" "[I", Cond.methodLink RX3 59 yX3_isAwake, Cond.instanceMethod yX3_isAwake]
def wsX4_cost_r2 : List Cond := [Cond.selects RX3 yX3_isAwake yX3_isAwake, Cond.code yX3_isAwake cX3_isAwake 2 (some .boolean), Cond.fieldLink RX3 9 "GoalLifts$House" "awake" "[I", Cond.methodLink RX3 52 yX3_hour, Cond.instanceMethod yX3_hour, Cond.selects RX3 yX3_hour yX3_hour, Cond.code yX3_hour cX3_hour 1 (some .int), Cond.fieldLink RX3 29 "GoalLifts$House" "tick" "I", Cond.methodLink RX3 46 yJ9_floorMod_7cf53, Cond.static yJ9_floorMod_7cf53, Cond.initialized RJ9, Cond.code yJ9_floorMod_7cf53 cJ9_floorMod_7cf53 3 (some .int), Cond.methodLink RX3 63 yX1_serves, Cond.instanceMethod yX1_serves, Cond.selects RX1 yX1_serves yX1_serves, Cond.code yX1_serves cX1_serves 3 (some .boolean), Cond.fieldLink RX1 9 "GoalLifts$Cars" "lowest" "[I", Cond.fieldLink RX1 15 "GoalLifts$Cars" "highest" "[I", Cond.methodLink RX4 169 yX3_costOf, Cond.instanceMethod yX3_costOf, Cond.selects RX3 yX3_costOf yX3_costOf, Cond.code yX3_costOf cX3_costOf 6 (some .int), Cond.fieldLink RX3 67 "GoalLifts$Cars" "floor" "[I", Cond.methodLink RX3 70 Lib.Math.abs.name]
def wsX4_cost_r3 : List Cond := [Cond.static Lib.Math.abs.name, Cond.initialized "java/lang/Math", Cond.code Lib.Math.abs.name Lib.Math.abs.code 1 (some .int), Cond.fieldLink RX3 25 "GoalLifts$House" "callers" "LGoalLifts$Callers;", Cond.methodLink RX3 74 yX0_stopsOf, Cond.instanceMethod yX0_stopsOf, Cond.selects RX0 yX0_stopsOf yX0_stopsOf, Cond.initialized RX0, Cond.code yX0_stopsOf cX0_stopsOf 4 (some .int), Cond.fieldLink RX0 36 "GoalLifts$Callers" "count" "I", Cond.fieldLink RX0 9 "GoalLifts$Callers" "floor" "[I", Cond.fieldLink RX0 15 "GoalLifts$Callers" "goal" "[I", Cond.methodLink RX0 54 yX0_waitsFor, Cond.instanceMethod yX0_waitsFor, Cond.selects RX0 yX0_waitsFor yX0_waitsFor, Cond.code yX0_waitsFor cX0_waitsFor 3 (some .boolean), Cond.fieldLink RX0 18 "GoalLifts$Callers" "phase" "[I", Cond.fieldLink RX0 21 "GoalLifts$Callers" "given" "[I", Cond.methodLink RX0 58 yX0_rides, Cond.instanceMethod yX0_rides, Cond.selects RX0 yX0_rides yX0_rides, Cond.code yX0_rides cX0_rides 3 (some .boolean), Cond.methodLink RX3 77 yJ6_bitCount_0f7a4, Cond.static yJ6_bitCount_0f7a4]
def wsX4_cost_r4 : List Cond := [Cond.initialized RJ6, Cond.code yJ6_bitCount_0f7a4 cJ6_bitCount_0f7a4 1 (some .int), Cond.constant RJ6 265 (1431655765), Cond.constant RJ6 266 (858993459), Cond.constant RJ6 267 (252645135), Cond.methodLink RX3 82 yX0_numberWith, Cond.instanceMethod yX0_numberWith, Cond.selects RX0 yX0_numberWith yX0_numberWith, Cond.code yX0_numberWith cX0_numberWith 2 (some .int), Cond.methodLink RX0 50 yX0_numberOf, Cond.instanceMethod yX0_numberOf, Cond.selects RX0 yX0_numberOf yX0_numberOf, Cond.code yX0_numberOf cX0_numberOf 5 (some .int)]
def wsX4_cost : List Cond := .code yX4_cost cX4_cost 4 (some .int) :: ((wsX4_cost_r1 ++ (wsX4_cost_r2 ++ (wsX4_cost_r3 ++ wsX4_cost_r4))) ++ wsX40 ++ wsX30 ++ wsX10 ++ wsX00)
def wsX4_would_r1 : List Cond := [Cond.fieldLink RX4 10 "GoalLifts" "house" "LGoalLifts$House;", Cond.methodLink RX4 78 yX4_isWay, Cond.static yX4_isWay, Cond.initialized RX4, Cond.code yX4_isWay cX4_isWay 2 (some .boolean), Cond.methodLink RX4 26 yX4_isFloor, Cond.static yX4_isFloor, Cond.code yX4_isFloor cX4_isFloor 1 (some .boolean), Cond.methodLink RX4 83 yX3_bestCar, Cond.instanceMethod yX3_bestCar, Cond.selects RX3 yX3_bestCar yX3_bestCar, Cond.initialized RX3, Cond.code yX3_bestCar cX3_bestCar 7 (some .int), Cond.fieldLink RX3 18 "GoalLifts$House" "cars" "LGoalLifts$Cars;", Cond.fieldLink RX3 85 "GoalLifts$Cars" "count" "I", Cond.methodLink RX3 88 yX3_canBeGiven, Cond.instanceMethod yX3_canBeGiven, Cond.selects RX3 yX3_canBeGiven yX3_canBeGiven, Cond.code yX3_canBeGiven cX3_canBeGiven 4 (some .boolean), Cond.fieldLink RX3 56 "GoalLifts$Cars" "state" "[I", Cond.methodLink RX3 59 yX3_isAwake, Cond.instanceMethod yX3_isAwake, Cond.selects RX3 yX3_isAwake yX3_isAwake, Cond.code yX3_isAwake cX3_isAwake 2 (some .boolean)]
def wsX4_would_r2 : List Cond := [Cond.fieldLink RX3 9 "GoalLifts$House" "awake" "[I", Cond.methodLink RX3 52 yX3_hour, Cond.instanceMethod yX3_hour, Cond.selects RX3 yX3_hour yX3_hour, Cond.code yX3_hour cX3_hour 1 (some .int), Cond.fieldLink RX3 29 "GoalLifts$House" "tick" "I", Cond.methodLink RX3 46 yJ9_floorMod_7cf53, Cond.static yJ9_floorMod_7cf53, Cond.initialized RJ9, Cond.code yJ9_floorMod_7cf53 cJ9_floorMod_7cf53 3 (some .int), Cond.methodLink RX3 63 yX1_serves, Cond.instanceMethod yX1_serves, Cond.selects RX1 yX1_serves yX1_serves, Cond.initialized RX1, Cond.code yX1_serves cX1_serves 3 (some .boolean), Cond.fieldLink RX1 9 "GoalLifts$Cars" "lowest" "[I", Cond.fieldLink RX1 15 "GoalLifts$Cars" "highest" "[I", Cond.methodLink RX3 92 yX3_costOf, Cond.instanceMethod yX3_costOf, Cond.selects RX3 yX3_costOf yX3_costOf, Cond.code yX3_costOf cX3_costOf 6 (some .int), Cond.fieldLink RX3 67 "GoalLifts$Cars" "floor" "[I", Cond.methodLink RX3 70 Lib.Math.abs.name, Cond.static Lib.Math.abs.name]
def wsX4_would_r3 : List Cond := [Cond.initialized "java/lang/Math", Cond.code Lib.Math.abs.name Lib.Math.abs.code 1 (some .int), Cond.fieldLink RX3 25 "GoalLifts$House" "callers" "LGoalLifts$Callers;", Cond.methodLink RX3 74 yX0_stopsOf, Cond.instanceMethod yX0_stopsOf, Cond.selects RX0 yX0_stopsOf yX0_stopsOf, Cond.initialized RX0, Cond.code yX0_stopsOf cX0_stopsOf 4 (some .int), Cond.fieldLink RX0 36 "GoalLifts$Callers" "count" "I", Cond.fieldLink RX0 9 "GoalLifts$Callers" "floor" "[I", Cond.fieldLink RX0 15 "GoalLifts$Callers" "goal" "[I", Cond.methodLink RX0 54 yX0_waitsFor, Cond.instanceMethod yX0_waitsFor, Cond.selects RX0 yX0_waitsFor yX0_waitsFor, Cond.code yX0_waitsFor cX0_waitsFor 3 (some .boolean), Cond.fieldLink RX0 18 "GoalLifts$Callers" "phase" "[I", Cond.fieldLink RX0 21 "GoalLifts$Callers" "given" "[I", Cond.methodLink RX0 58 yX0_rides, Cond.instanceMethod yX0_rides, Cond.selects RX0 yX0_rides yX0_rides, Cond.code yX0_rides cX0_rides 3 (some .boolean), Cond.methodLink RX3 77 yJ6_bitCount_0f7a4, Cond.static yJ6_bitCount_0f7a4, Cond.initialized RJ6]
def wsX4_would_r4 : List Cond := [Cond.code yJ6_bitCount_0f7a4 cJ6_bitCount_0f7a4 1 (some .int), Cond.constant RJ6 265 (1431655765), Cond.constant RJ6 266 (858993459), Cond.constant RJ6 267 (252645135), Cond.methodLink RX3 82 yX0_numberWith, Cond.instanceMethod yX0_numberWith, Cond.selects RX0 yX0_numberWith yX0_numberWith, Cond.code yX0_numberWith cX0_numberWith 2 (some .int), Cond.methodLink RX0 50 yX0_numberOf, Cond.instanceMethod yX0_numberOf, Cond.selects RX0 yX0_numberOf yX0_numberOf, Cond.code yX0_numberOf cX0_numberOf 5 (some .int)]
def wsX4_would : List Cond := .code yX4_would cX4_would 3 (some .int) :: ((wsX4_would_r1 ++ (wsX4_would_r2 ++ (wsX4_would_r3 ++ wsX4_would_r4))) ++ wsX40 ++ wsX30 ++ wsX10 ++ wsX00)
def wsX4_thereIn_r1 : List Cond := [Cond.fieldLink RX4 10 "GoalLifts" "house" "LGoalLifts$House;", Cond.fieldLink RX4 58 "GoalLifts$House" "callers" "LGoalLifts$Callers;", Cond.fieldLink RX4 16 "GoalLifts" "forecast" "LGoalLifts$House;", Cond.fieldLink RX4 141 "GoalLifts$Callers" "phase" "[I", Cond.methodLink RX4 136 yX0_has, Cond.instanceMethod yX0_has, Cond.selects RX0 yX0_has yX0_has, Cond.initialized RX0, Cond.code yX0_has cX0_has 2 (some .boolean), Cond.fieldLink RX0 36 "GoalLifts$Callers" "count" "I", Cond.methodLink RX4 172 yX3_copyFrom, Cond.instanceMethod yX3_copyFrom, Cond.selects RX3 yX3_copyFrom yX3_copyFrom, Cond.initialized RX3, Cond.code yX3_copyFrom cX3_copyFrom 2 none, Cond.fieldLink RX3 29 "GoalLifts$House" "tick" "I", Cond.fieldLink RX3 9 "GoalLifts$House" "awake" "[I", Cond.methodLink RX3 33 arraycopyName, Cond.native arraycopyName, Cond.static arraycopyName, Cond.initialized "java/lang/System", Cond.fieldLink RX3 18 "GoalLifts$House" "cars" "LGoalLifts$Cars;", Cond.fieldLink RX3 25 "GoalLifts$House" "callers" "LGoalLifts$Callers;", Cond.methodLink RX3 39 yX1_copyFrom]
def wsX4_thereIn_r2 : List Cond := [Cond.instanceMethod yX1_copyFrom, Cond.selects RX1 yX1_copyFrom yX1_copyFrom, Cond.initialized RX1, Cond.code yX1_copyFrom cX1_copyFrom 2 none, Cond.fieldLink RX1 30 "GoalLifts$Cars" "count" "I", Cond.fieldLink RX1 34 "GoalLifts$Cars" "stopsMade" "I", Cond.fieldLink RX1 9 "GoalLifts$Cars" "lowest" "[I", Cond.methodLink RX1 37 arraycopyName, Cond.fieldLink RX1 15 "GoalLifts$Cars" "highest" "[I", Cond.fieldLink RX1 18 "GoalLifts$Cars" "places" "[I", Cond.fieldLink RX1 21 "GoalLifts$Cars" "floor" "[I", Cond.fieldLink RX1 24 "GoalLifts$Cars" "state" "[I", Cond.fieldLink RX1 27 "GoalLifts$Cars" "travelled" "[I", Cond.methodLink RX3 43 yX0_copyFrom, Cond.instanceMethod yX0_copyFrom, Cond.selects RX0 yX0_copyFrom yX0_copyFrom, Cond.code yX0_copyFrom cX0_copyFrom 2 none, Cond.fieldLink RX0 9 "GoalLifts$Callers" "floor" "[I", Cond.methodLink RX0 40 arraycopyName, Cond.fieldLink RX0 15 "GoalLifts$Callers" "goal" "[I", Cond.fieldLink RX0 18 "GoalLifts$Callers" "phase" "[I", Cond.fieldLink RX0 21 "GoalLifts$Callers" "given" "[I", Cond.fieldLink RX0 24 "GoalLifts$Callers" "calledAt" "[I", Cond.fieldLink RX0 27 "GoalLifts$Callers" "rodeAt" "[I"]
def wsX4_thereIn_r3 : List Cond := [Cond.fieldLink RX0 30 "GoalLifts$Callers" "thereAt" "[I", Cond.fieldLink RX0 33 "GoalLifts$Callers" "timesGiven" "[I", Cond.methodLink RX4 95 yX3_oneTick, Cond.instanceMethod yX3_oneTick, Cond.selects RX3 yX3_oneTick yX3_oneTick, Cond.code yX3_oneTick cX3_oneTick 2 none, Cond.fieldLink RX3 96 "GoalLifts$Callers" "count" "I", Cond.fieldLink RX3 97 "GoalLifts$Callers" "phase" "[I", Cond.fieldLink RX3 100 "GoalLifts$Callers" "floor" "[I", Cond.fieldLink RX3 101 "GoalLifts$Callers" "goal" "[I", Cond.fieldLink RX3 85 "GoalLifts$Cars" "count" "I", Cond.fieldLink RX3 56 "GoalLifts$Cars" "state" "[I", Cond.methodLink RX3 104 yX3_bestCar, Cond.instanceMethod yX3_bestCar, Cond.selects RX3 yX3_bestCar yX3_bestCar, Cond.code yX3_bestCar cX3_bestCar 7 (some .int), Cond.methodLink RX3 88 yX3_canBeGiven, Cond.instanceMethod yX3_canBeGiven, Cond.selects RX3 yX3_canBeGiven yX3_canBeGiven, Cond.code yX3_canBeGiven cX3_canBeGiven 4 (some .boolean), Cond.methodLink RX3 59 yX3_isAwake, Cond.instanceMethod yX3_isAwake, Cond.selects RX3 yX3_isAwake yX3_isAwake, Cond.code yX3_isAwake cX3_isAwake 2 (some .boolean)]
def wsX4_thereIn_r4 : List Cond := [Cond.methodLink RX3 52 yX3_hour, Cond.instanceMethod yX3_hour, Cond.selects RX3 yX3_hour yX3_hour, Cond.code yX3_hour cX3_hour 1 (some .int), Cond.methodLink RX3 46 yJ9_floorMod_7cf53, Cond.static yJ9_floorMod_7cf53, Cond.initialized RJ9, Cond.code yJ9_floorMod_7cf53 cJ9_floorMod_7cf53 3 (some .int), Cond.methodLink RX3 63 yX1_serves, Cond.instanceMethod yX1_serves, Cond.selects RX1 yX1_serves yX1_serves, Cond.code yX1_serves cX1_serves 3 (some .boolean), Cond.methodLink RX3 92 yX3_costOf, Cond.instanceMethod yX3_costOf, Cond.selects RX3 yX3_costOf yX3_costOf, Cond.code yX3_costOf cX3_costOf 6 (some .int), Cond.fieldLink RX3 67 "GoalLifts$Cars" "floor" "[I", Cond.methodLink RX3 70 Lib.Math.abs.name, Cond.static Lib.Math.abs.name, Cond.initialized "java/lang/Math", Cond.code Lib.Math.abs.name Lib.Math.abs.code 1 (some .int), Cond.methodLink RX3 74 yX0_stopsOf, Cond.instanceMethod yX0_stopsOf, Cond.selects RX0 yX0_stopsOf yX0_stopsOf]
def wsX4_thereIn_r5 : List Cond := [Cond.code yX0_stopsOf cX0_stopsOf 4 (some .int), Cond.methodLink RX0 54 yX0_waitsFor, Cond.instanceMethod yX0_waitsFor, Cond.selects RX0 yX0_waitsFor yX0_waitsFor, Cond.code yX0_waitsFor cX0_waitsFor 3 (some .boolean), Cond.methodLink RX0 58 yX0_rides, Cond.instanceMethod yX0_rides, Cond.selects RX0 yX0_rides yX0_rides, Cond.code yX0_rides cX0_rides 3 (some .boolean), Cond.methodLink RX3 77 yJ6_bitCount_0f7a4, Cond.static yJ6_bitCount_0f7a4, Cond.initialized RJ6, Cond.code yJ6_bitCount_0f7a4 cJ6_bitCount_0f7a4 1 (some .int), Cond.constant RJ6 265 (1431655765), Cond.constant RJ6 266 (858993459), Cond.constant RJ6 267 (252645135), Cond.methodLink RX3 82 yX0_numberWith, Cond.instanceMethod yX0_numberWith, Cond.selects RX0 yX0_numberWith yX0_numberWith, Cond.code yX0_numberWith cX0_numberWith 2 (some .int), Cond.methodLink RX0 50 yX0_numberOf, Cond.instanceMethod yX0_numberOf, Cond.selects RX0 yX0_numberOf yX0_numberOf, Cond.code yX0_numberOf cX0_numberOf 5 (some .int)]
def wsX4_thereIn_r6 : List Cond := [Cond.methodLink RX3 107 yX0_give, Cond.instanceMethod yX0_give, Cond.selects RX0 yX0_give yX0_give, Cond.code yX0_give cX0_give 3 none, Cond.methodLink RX0 46 yX0_has, Cond.methodLink RX3 111 yX3_stopOrTravel, Cond.instanceMethod yX3_stopOrTravel, Cond.selects RX3 yX3_stopOrTravel yX3_stopOrTravel, Cond.code yX3_stopOrTravel cX3_stopOrTravel 6 none, Cond.fieldLink RX3 118 "GoalLifts$Cars" "places" "[I", Cond.fieldLink RX3 125 "GoalLifts$Cars" "stopsMade" "I", Cond.methodLink RX3 115 yX0_letOut, Cond.instanceMethod yX0_letOut, Cond.selects RX0 yX0_letOut yX0_letOut, Cond.code yX0_letOut cX0_letOut 6 (some .int), Cond.methodLink RX3 121 yX0_takeIn, Cond.instanceMethod yX0_takeIn, Cond.selects RX0 yX0_takeIn yX0_takeIn, Cond.code yX0_takeIn cX0_takeIn 8 (some .int), Cond.methodLink RX3 128 yX0_aimOf, Cond.instanceMethod yX0_aimOf, Cond.selects RX0 yX0_aimOf yX0_aimOf, Cond.code yX0_aimOf cX0_aimOf 6 (some .int), Cond.methodLink RX0 61 yX0_isNearer]
def wsX4_thereIn_r7 : List Cond := [Cond.static yX0_isNearer, Cond.code yX0_isNearer cX0_isNearer 5 (some .boolean), Cond.methodLink RX0 65 Lib.Math.abs.name, Cond.methodLink RX3 131 yX1_travelTowards, Cond.instanceMethod yX1_travelTowards, Cond.selects RX1 yX1_travelTowards yX1_travelTowards, Cond.code yX1_travelTowards cX1_travelTowards 3 none]
def wsX4_thereIn : List Cond := .code yX4_thereIn cX4_thereIn 3 (some .int) :: ((wsX4_thereIn_r1 ++ (wsX4_thereIn_r2 ++ (wsX4_thereIn_r3 ++ (wsX4_thereIn_r4 ++ (wsX4_thereIn_r5 ++ (wsX4_thereIn_r6 ++ wsX4_thereIn_r7)))))) ++ wsX40 ++ wsX30 ++ wsX00 ++ wsX10)
def wsX4_waits : List Cond := .code yX4_waits cX4_waits 7 (some .int) :: ([.fieldLink RX4 10 "GoalLifts" "house" "LGoalLifts$House;", .fieldLink RX4 58 "GoalLifts$House" "callers" "LGoalLifts$Callers;", .fieldLink RX4 82 "GoalLifts$Callers" "count" "I", .fieldLink RX4 87 "GoalLifts$House" "tick" "I", .methodLink RX4 175 yX0_waitOf, .instanceMethod yX0_waitOf, .selects RX0 yX0_waitOf yX0_waitOf, .initialized RX0, .code yX0_waitOf cX0_waitOf 4 (some .int), .fieldLink RX0 18 "GoalLifts$Callers" "phase" "[I", .fieldLink RX0 27 "GoalLifts$Callers" "rodeAt" "[I", .fieldLink RX0 24 "GoalLifts$Callers" "calledAt" "[I"] ++ wsX40 ++ wsX30 ++ wsX00)
def wsX4_allThereInWithout_r1 : List Cond := [Cond.fieldLink RX4 16 "GoalLifts" "forecast" "LGoalLifts$House;", Cond.fieldLink RX4 10 "GoalLifts" "house" "LGoalLifts$House;", Cond.fieldLink RX4 58 "GoalLifts$House" "callers" "LGoalLifts$Callers;", Cond.fieldLink RX4 82 "GoalLifts$Callers" "count" "I", Cond.methodLink RX4 172 yX3_copyFrom, Cond.instanceMethod yX3_copyFrom, Cond.selects RX3 yX3_copyFrom yX3_copyFrom, Cond.initialized RX3, Cond.code yX3_copyFrom cX3_copyFrom 2 none, Cond.fieldLink RX3 29 "GoalLifts$House" "tick" "I", Cond.fieldLink RX3 9 "GoalLifts$House" "awake" "[I", Cond.methodLink RX3 33 arraycopyName, Cond.native arraycopyName, Cond.static arraycopyName, Cond.initialized "java/lang/System", Cond.fieldLink RX3 18 "GoalLifts$House" "cars" "LGoalLifts$Cars;", Cond.fieldLink RX3 25 "GoalLifts$House" "callers" "LGoalLifts$Callers;", Cond.methodLink RX3 39 yX1_copyFrom, Cond.instanceMethod yX1_copyFrom, Cond.selects RX1 yX1_copyFrom yX1_copyFrom, Cond.initialized RX1, Cond.code yX1_copyFrom cX1_copyFrom 2 none, Cond.fieldLink RX1 30 "GoalLifts$Cars" "count" "I", Cond.fieldLink RX1 34 "GoalLifts$Cars" "stopsMade" "I"]
def wsX4_allThereInWithout_r2 : List Cond := [Cond.fieldLink RX1 9 "GoalLifts$Cars" "lowest" "[I", Cond.methodLink RX1 37 arraycopyName, Cond.fieldLink RX1 15 "GoalLifts$Cars" "highest" "[I", Cond.fieldLink RX1 18 "GoalLifts$Cars" "places" "[I", Cond.fieldLink RX1 21 "GoalLifts$Cars" "floor" "[I", Cond.fieldLink RX1 24 "GoalLifts$Cars" "state" "[I", Cond.fieldLink RX1 27 "GoalLifts$Cars" "travelled" "[I", Cond.methodLink RX3 43 yX0_copyFrom, Cond.instanceMethod yX0_copyFrom, Cond.selects RX0 yX0_copyFrom yX0_copyFrom, Cond.initialized RX0, Cond.code yX0_copyFrom cX0_copyFrom 2 none, Cond.fieldLink RX0 36 "GoalLifts$Callers" "count" "I", Cond.fieldLink RX0 9 "GoalLifts$Callers" "floor" "[I", Cond.methodLink RX0 40 arraycopyName, Cond.fieldLink RX0 15 "GoalLifts$Callers" "goal" "[I", Cond.fieldLink RX0 18 "GoalLifts$Callers" "phase" "[I", Cond.fieldLink RX0 21 "GoalLifts$Callers" "given" "[I", Cond.fieldLink RX0 24 "GoalLifts$Callers" "calledAt" "[I", Cond.fieldLink RX0 27 "GoalLifts$Callers" "rodeAt" "[I", Cond.fieldLink RX0 30 "GoalLifts$Callers" "thereAt" "[I", Cond.fieldLink RX0 33 "GoalLifts$Callers" "timesGiven" "[I", Cond.methodLink RX4 68 yX3_breakCar, Cond.instanceMethod yX3_breakCar]
def wsX4_allThereInWithout_r3 : List Cond := [Cond.selects RX3 yX3_breakCar yX3_breakCar, Cond.code yX3_breakCar cX3_breakCar 2 none, Cond.fieldLink RX3 56 "GoalLifts$Cars" "state" "[I", Cond.fieldLink RX3 67 "GoalLifts$Cars" "floor" "[I", Cond.methodLink RX3 134 yX0_loseCar, Cond.instanceMethod yX0_loseCar, Cond.selects RX0 yX0_loseCar yX0_loseCar, Cond.code yX0_loseCar cX0_loseCar 6 none, Cond.methodLink RX0 58 yX0_rides, Cond.instanceMethod yX0_rides, Cond.selects RX0 yX0_rides yX0_rides, Cond.code yX0_rides cX0_rides 3 (some .boolean), Cond.methodLink RX0 54 yX0_waitsFor, Cond.instanceMethod yX0_waitsFor, Cond.selects RX0 yX0_waitsFor yX0_waitsFor, Cond.code yX0_waitsFor cX0_waitsFor 3 (some .boolean), Cond.methodLink RX4 72 yX0_numberIn, Cond.instanceMethod yX0_numberIn, Cond.selects RX0 yX0_numberIn yX0_numberIn, Cond.code yX0_numberIn cX0_numberIn 4 (some .int), Cond.methodLink RX4 95 yX3_oneTick, Cond.instanceMethod yX3_oneTick, Cond.selects RX3 yX3_oneTick yX3_oneTick, Cond.code yX3_oneTick cX3_oneTick 2 none]
def wsX4_allThereInWithout_r4 : List Cond := [Cond.fieldLink RX3 96 "GoalLifts$Callers" "count" "I", Cond.fieldLink RX3 97 "GoalLifts$Callers" "phase" "[I", Cond.fieldLink RX3 100 "GoalLifts$Callers" "floor" "[I", Cond.fieldLink RX3 101 "GoalLifts$Callers" "goal" "[I", Cond.fieldLink RX3 85 "GoalLifts$Cars" "count" "I", Cond.methodLink RX3 104 yX3_bestCar, Cond.instanceMethod yX3_bestCar, Cond.selects RX3 yX3_bestCar yX3_bestCar, Cond.code yX3_bestCar cX3_bestCar 7 (some .int), Cond.methodLink RX3 88 yX3_canBeGiven, Cond.instanceMethod yX3_canBeGiven, Cond.selects RX3 yX3_canBeGiven yX3_canBeGiven, Cond.code yX3_canBeGiven cX3_canBeGiven 4 (some .boolean), Cond.methodLink RX3 59 yX3_isAwake, Cond.instanceMethod yX3_isAwake, Cond.selects RX3 yX3_isAwake yX3_isAwake, Cond.code yX3_isAwake cX3_isAwake 2 (some .boolean), Cond.methodLink RX3 52 yX3_hour, Cond.instanceMethod yX3_hour, Cond.selects RX3 yX3_hour yX3_hour, Cond.code yX3_hour cX3_hour 1 (some .int), Cond.methodLink RX3 46 yJ9_floorMod_7cf53, Cond.static yJ9_floorMod_7cf53, Cond.initialized RJ9]
def wsX4_allThereInWithout_r5 : List Cond := [Cond.code yJ9_floorMod_7cf53 cJ9_floorMod_7cf53 3 (some .int), Cond.methodLink RX3 63 yX1_serves, Cond.instanceMethod yX1_serves, Cond.selects RX1 yX1_serves yX1_serves, Cond.code yX1_serves cX1_serves 3 (some .boolean), Cond.methodLink RX3 92 yX3_costOf, Cond.instanceMethod yX3_costOf, Cond.selects RX3 yX3_costOf yX3_costOf, Cond.code yX3_costOf cX3_costOf 6 (some .int), Cond.methodLink RX3 70 Lib.Math.abs.name, Cond.static Lib.Math.abs.name, Cond.initialized "java/lang/Math", Cond.code Lib.Math.abs.name Lib.Math.abs.code 1 (some .int), Cond.methodLink RX3 74 yX0_stopsOf, Cond.instanceMethod yX0_stopsOf, Cond.selects RX0 yX0_stopsOf yX0_stopsOf, Cond.code yX0_stopsOf cX0_stopsOf 4 (some .int), Cond.methodLink RX3 77 yJ6_bitCount_0f7a4, Cond.static yJ6_bitCount_0f7a4, Cond.initialized RJ6, Cond.code yJ6_bitCount_0f7a4 cJ6_bitCount_0f7a4 1 (some .int), Cond.constant RJ6 265 (1431655765), Cond.constant RJ6 266 (858993459), Cond.constant RJ6 267 (252645135)]
def wsX4_allThereInWithout_r6 : List Cond := [Cond.methodLink RX3 82 yX0_numberWith, Cond.instanceMethod yX0_numberWith, Cond.selects RX0 yX0_numberWith yX0_numberWith, Cond.code yX0_numberWith cX0_numberWith 2 (some .int), Cond.methodLink RX0 50 yX0_numberOf, Cond.instanceMethod yX0_numberOf, Cond.selects RX0 yX0_numberOf yX0_numberOf, Cond.code yX0_numberOf cX0_numberOf 5 (some .int), Cond.methodLink RX3 107 yX0_give, Cond.instanceMethod yX0_give, Cond.selects RX0 yX0_give yX0_give, Cond.code yX0_give cX0_give 3 none, Cond.methodLink RX0 46 yX0_has, Cond.instanceMethod yX0_has, Cond.selects RX0 yX0_has yX0_has, Cond.code yX0_has cX0_has 2 (some .boolean), Cond.methodLink RX3 111 yX3_stopOrTravel, Cond.instanceMethod yX3_stopOrTravel, Cond.selects RX3 yX3_stopOrTravel yX3_stopOrTravel, Cond.code yX3_stopOrTravel cX3_stopOrTravel 6 none, Cond.fieldLink RX3 118 "GoalLifts$Cars" "places" "[I", Cond.fieldLink RX3 125 "GoalLifts$Cars" "stopsMade" "I", Cond.methodLink RX3 115 yX0_letOut, Cond.instanceMethod yX0_letOut]
def wsX4_allThereInWithout_r7 : List Cond := [Cond.selects RX0 yX0_letOut yX0_letOut, Cond.code yX0_letOut cX0_letOut 6 (some .int), Cond.methodLink RX3 121 yX0_takeIn, Cond.instanceMethod yX0_takeIn, Cond.selects RX0 yX0_takeIn yX0_takeIn, Cond.code yX0_takeIn cX0_takeIn 8 (some .int), Cond.methodLink RX3 128 yX0_aimOf, Cond.instanceMethod yX0_aimOf, Cond.selects RX0 yX0_aimOf yX0_aimOf, Cond.code yX0_aimOf cX0_aimOf 6 (some .int), Cond.methodLink RX0 61 yX0_isNearer, Cond.static yX0_isNearer, Cond.code yX0_isNearer cX0_isNearer 5 (some .boolean), Cond.methodLink RX0 65 Lib.Math.abs.name, Cond.methodLink RX3 131 yX1_travelTowards, Cond.instanceMethod yX1_travelTowards, Cond.selects RX1 yX1_travelTowards yX1_travelTowards, Cond.code yX1_travelTowards cX1_travelTowards 3 none]
def wsX4_allThereInWithout : List Cond := .code yX4_allThereInWithout cX4_allThereInWithout 3 (some .int) :: ((wsX4_allThereInWithout_r1 ++ (wsX4_allThereInWithout_r2 ++ (wsX4_allThereInWithout_r3 ++ (wsX4_allThereInWithout_r4 ++ (wsX4_allThereInWithout_r5 ++ (wsX4_allThereInWithout_r6 ++ wsX4_allThereInWithout_r7)))))) ++ wsX40 ++ wsX30 ++ wsX00 ++ wsX10)
def wsX4_worstCar_r1 : List Cond := [Cond.fieldLink RX4 10 "GoalLifts" "house" "LGoalLifts$House;", Cond.fieldLink RX4 30 "GoalLifts$House" "cars" "LGoalLifts$Cars;", Cond.fieldLink RX4 34 "GoalLifts$Cars" "count" "I", Cond.fieldLink RX4 55 "GoalLifts$Cars" "state" "[I", Cond.methodLink RX4 178 yX4_allThereInWithout, Cond.instanceMethod yX4_allThereInWithout, Cond.selects RX4 yX4_allThereInWithout yX4_allThereInWithout, Cond.initialized RX4, Cond.code yX4_allThereInWithout cX4_allThereInWithout 3 (some .int), Cond.fieldLink RX4 16 "GoalLifts" "forecast" "LGoalLifts$House;", Cond.fieldLink RX4 58 "GoalLifts$House" "callers" "LGoalLifts$Callers;", Cond.fieldLink RX4 82 "GoalLifts$Callers" "count" "I", Cond.methodLink RX4 172 yX3_copyFrom, Cond.instanceMethod yX3_copyFrom, Cond.selects RX3 yX3_copyFrom yX3_copyFrom, Cond.initialized RX3, Cond.code yX3_copyFrom cX3_copyFrom 2 none, Cond.fieldLink RX3 29 "GoalLifts$House" "tick" "I", Cond.fieldLink RX3 9 "GoalLifts$House" "awake" "[I", Cond.methodLink RX3 33 arraycopyName, Cond.native arraycopyName, Cond.static arraycopyName, Cond.initialized "java/lang/System", Cond.fieldLink RX3 18 "GoalLifts$House" "cars" "LGoalLifts$Cars;"]
def wsX4_worstCar_r2 : List Cond := [Cond.fieldLink RX3 25 "GoalLifts$House" "callers" "LGoalLifts$Callers;", Cond.methodLink RX3 39 yX1_copyFrom, Cond.instanceMethod yX1_copyFrom, Cond.selects RX1 yX1_copyFrom yX1_copyFrom, Cond.initialized RX1, Cond.code yX1_copyFrom cX1_copyFrom 2 none, Cond.fieldLink RX1 30 "GoalLifts$Cars" "count" "I", Cond.fieldLink RX1 34 "GoalLifts$Cars" "stopsMade" "I", Cond.fieldLink RX1 9 "GoalLifts$Cars" "lowest" "[I", Cond.methodLink RX1 37 arraycopyName, Cond.fieldLink RX1 15 "GoalLifts$Cars" "highest" "[I", Cond.fieldLink RX1 18 "GoalLifts$Cars" "places" "[I", Cond.fieldLink RX1 21 "GoalLifts$Cars" "floor" "[I", Cond.fieldLink RX1 24 "GoalLifts$Cars" "state" "[I", Cond.fieldLink RX1 27 "GoalLifts$Cars" "travelled" "[I", Cond.methodLink RX3 43 yX0_copyFrom, Cond.instanceMethod yX0_copyFrom, Cond.selects RX0 yX0_copyFrom yX0_copyFrom, Cond.initialized RX0, Cond.code yX0_copyFrom cX0_copyFrom 2 none, Cond.fieldLink RX0 36 "GoalLifts$Callers" "count" "I", Cond.fieldLink RX0 9 "GoalLifts$Callers" "floor" "[I", Cond.methodLink RX0 40 arraycopyName, Cond.fieldLink RX0 15 "GoalLifts$Callers" "goal" "[I"]
def wsX4_worstCar_r3 : List Cond := [Cond.fieldLink RX0 18 "GoalLifts$Callers" "phase" "[I", Cond.fieldLink RX0 21 "GoalLifts$Callers" "given" "[I", Cond.fieldLink RX0 24 "GoalLifts$Callers" "calledAt" "[I", Cond.fieldLink RX0 27 "GoalLifts$Callers" "rodeAt" "[I", Cond.fieldLink RX0 30 "GoalLifts$Callers" "thereAt" "[I", Cond.fieldLink RX0 33 "GoalLifts$Callers" "timesGiven" "[I", Cond.methodLink RX4 68 yX3_breakCar, Cond.instanceMethod yX3_breakCar, Cond.selects RX3 yX3_breakCar yX3_breakCar, Cond.code yX3_breakCar cX3_breakCar 2 none, Cond.fieldLink RX3 56 "GoalLifts$Cars" "state" "[I", Cond.fieldLink RX3 67 "GoalLifts$Cars" "floor" "[I", Cond.methodLink RX3 134 yX0_loseCar, Cond.instanceMethod yX0_loseCar, Cond.selects RX0 yX0_loseCar yX0_loseCar, Cond.code yX0_loseCar cX0_loseCar 6 none, Cond.methodLink RX0 58 yX0_rides, Cond.instanceMethod yX0_rides, Cond.selects RX0 yX0_rides yX0_rides, Cond.code yX0_rides cX0_rides 3 (some .boolean), Cond.methodLink RX0 54 yX0_waitsFor, Cond.instanceMethod yX0_waitsFor, Cond.selects RX0 yX0_waitsFor yX0_waitsFor, Cond.code yX0_waitsFor cX0_waitsFor 3 (some .boolean)]
def wsX4_worstCar_r4 : List Cond := [Cond.methodLink RX4 72 yX0_numberIn, Cond.instanceMethod yX0_numberIn, Cond.selects RX0 yX0_numberIn yX0_numberIn, Cond.code yX0_numberIn cX0_numberIn 4 (some .int), Cond.methodLink RX4 95 yX3_oneTick, Cond.instanceMethod yX3_oneTick, Cond.selects RX3 yX3_oneTick yX3_oneTick, Cond.code yX3_oneTick cX3_oneTick 2 none, Cond.fieldLink RX3 96 "GoalLifts$Callers" "count" "I", Cond.fieldLink RX3 97 "GoalLifts$Callers" "phase" "[I", Cond.fieldLink RX3 100 "GoalLifts$Callers" "floor" "[I", Cond.fieldLink RX3 101 "GoalLifts$Callers" "goal" "[I", Cond.fieldLink RX3 85 "GoalLifts$Cars" "count" "I", Cond.methodLink RX3 104 yX3_bestCar, Cond.instanceMethod yX3_bestCar, Cond.selects RX3 yX3_bestCar yX3_bestCar, Cond.code yX3_bestCar cX3_bestCar 7 (some .int), Cond.methodLink RX3 88 yX3_canBeGiven, Cond.instanceMethod yX3_canBeGiven, Cond.selects RX3 yX3_canBeGiven yX3_canBeGiven, Cond.code yX3_canBeGiven cX3_canBeGiven 4 (some .boolean), Cond.methodLink RX3 59 yX3_isAwake, Cond.instanceMethod yX3_isAwake, Cond.selects RX3 yX3_isAwake yX3_isAwake]
def wsX4_worstCar_r5 : List Cond := [Cond.code yX3_isAwake cX3_isAwake 2 (some .boolean), Cond.methodLink RX3 52 yX3_hour, Cond.instanceMethod yX3_hour, Cond.selects RX3 yX3_hour yX3_hour, Cond.code yX3_hour cX3_hour 1 (some .int), Cond.methodLink RX3 46 yJ9_floorMod_7cf53, Cond.static yJ9_floorMod_7cf53, Cond.initialized RJ9, Cond.code yJ9_floorMod_7cf53 cJ9_floorMod_7cf53 3 (some .int), Cond.methodLink RX3 63 yX1_serves, Cond.instanceMethod yX1_serves, Cond.selects RX1 yX1_serves yX1_serves, Cond.code yX1_serves cX1_serves 3 (some .boolean), Cond.methodLink RX3 92 yX3_costOf, Cond.instanceMethod yX3_costOf, Cond.selects RX3 yX3_costOf yX3_costOf, Cond.code yX3_costOf cX3_costOf 6 (some .int), Cond.methodLink RX3 70 Lib.Math.abs.name, Cond.static Lib.Math.abs.name, Cond.initialized "java/lang/Math", Cond.code Lib.Math.abs.name Lib.Math.abs.code 1 (some .int), Cond.methodLink RX3 74 yX0_stopsOf, Cond.instanceMethod yX0_stopsOf, Cond.selects RX0 yX0_stopsOf yX0_stopsOf]
def wsX4_worstCar_r6 : List Cond := [Cond.code yX0_stopsOf cX0_stopsOf 4 (some .int), Cond.methodLink RX3 77 yJ6_bitCount_0f7a4, Cond.static yJ6_bitCount_0f7a4, Cond.initialized RJ6, Cond.code yJ6_bitCount_0f7a4 cJ6_bitCount_0f7a4 1 (some .int), Cond.constant RJ6 265 (1431655765), Cond.constant RJ6 266 (858993459), Cond.constant RJ6 267 (252645135), Cond.methodLink RX3 82 yX0_numberWith, Cond.instanceMethod yX0_numberWith, Cond.selects RX0 yX0_numberWith yX0_numberWith, Cond.code yX0_numberWith cX0_numberWith 2 (some .int), Cond.methodLink RX0 50 yX0_numberOf, Cond.instanceMethod yX0_numberOf, Cond.selects RX0 yX0_numberOf yX0_numberOf, Cond.code yX0_numberOf cX0_numberOf 5 (some .int), Cond.methodLink RX3 107 yX0_give, Cond.instanceMethod yX0_give, Cond.selects RX0 yX0_give yX0_give, Cond.code yX0_give cX0_give 3 none, Cond.methodLink RX0 46 yX0_has, Cond.instanceMethod yX0_has, Cond.selects RX0 yX0_has yX0_has, Cond.code yX0_has cX0_has 2 (some .boolean)]
def wsX4_worstCar_r7 : List Cond := [Cond.methodLink RX3 111 yX3_stopOrTravel, Cond.instanceMethod yX3_stopOrTravel, Cond.selects RX3 yX3_stopOrTravel yX3_stopOrTravel, Cond.code yX3_stopOrTravel cX3_stopOrTravel 6 none, Cond.fieldLink RX3 118 "GoalLifts$Cars" "places" "[I", Cond.fieldLink RX3 125 "GoalLifts$Cars" "stopsMade" "I", Cond.methodLink RX3 115 yX0_letOut, Cond.instanceMethod yX0_letOut, Cond.selects RX0 yX0_letOut yX0_letOut, Cond.code yX0_letOut cX0_letOut 6 (some .int), Cond.methodLink RX3 121 yX0_takeIn, Cond.instanceMethod yX0_takeIn, Cond.selects RX0 yX0_takeIn yX0_takeIn, Cond.code yX0_takeIn cX0_takeIn 8 (some .int), Cond.methodLink RX3 128 yX0_aimOf, Cond.instanceMethod yX0_aimOf, Cond.selects RX0 yX0_aimOf yX0_aimOf, Cond.code yX0_aimOf cX0_aimOf 6 (some .int), Cond.methodLink RX0 61 yX0_isNearer, Cond.static yX0_isNearer, Cond.code yX0_isNearer cX0_isNearer 5 (some .boolean), Cond.methodLink RX0 65 Lib.Math.abs.name, Cond.methodLink RX3 131 yX1_travelTowards, Cond.instanceMethod yX1_travelTowards]
def wsX4_worstCar_r8 : List Cond := [Cond.selects RX1 yX1_travelTowards yX1_travelTowards, Cond.code yX1_travelTowards cX1_travelTowards 3 none]
def wsX4_worstCar : List Cond := .code yX4_worstCar cX4_worstCar 6 (some .int) :: ((wsX4_worstCar_r1 ++ (wsX4_worstCar_r2 ++ (wsX4_worstCar_r3 ++ (wsX4_worstCar_r4 ++ (wsX4_worstCar_r5 ++ (wsX4_worstCar_r6 ++ (wsX4_worstCar_r7 ++ wsX4_worstCar_r8))))))) ++ wsX40 ++ wsX30 ++ wsX10 ++ wsX00)
def wsX5_init : List Cond := .code yX5_init cX5_init 2 none :: ([.methodLink RX5 1 objectInit, .instanceMethod objectInit, .code objectInit ⟨#[0xb1]⟩ 1 none, .arrayClass .int, .fieldLink RX5 7 "GoalLiftsModel" "s" "[I", .fieldLink RX5 13 "GoalLiftsModel" "past" "[I", .fieldLink RX5 16 "GoalLiftsModel" "held" "[I", .fieldLink RX5 19 "GoalLiftsModel" "tried" "[I"] ++ wsX50)
def wsX5_in : List Cond := .code yX5_in cX5_in 3 (some .boolean) :: ([])
def wsX5_acts : List Cond := .code yX5_acts cX5_acts 2 none :: ([.fieldLink RX5 22 "GoalLiftsModel" "pasts" "I", .fieldLink RX5 13 "GoalLiftsModel" "past" "[I", .fieldLink RX5 7 "GoalLiftsModel" "s" "[I"] ++ wsX50)
def wsX5_copies : List Cond := .code yX5_copies cX5_copies 3 none :: ([])
def wsX5_isCar : List Cond := .code yX5_isCar cX5_isCar 2 (some .boolean) :: ([.fieldLink RX5 7 "GoalLiftsModel" "s" "[I"] ++ wsX50)
def wsX5_isCaller : List Cond := .code yX5_isCaller cX5_isCaller 2 (some .boolean) :: ([.fieldLink RX5 7 "GoalLiftsModel" "s" "[I"] ++ wsX50)
def wsX5_isFloor : List Cond := .code yX5_isFloor cX5_isFloor 1 (some .boolean) :: ([.methodLink RX5 26 yX5_in, .static yX5_in, .initialized RX5, .code yX5_in cX5_in 3 (some .boolean)])
def wsX5_ofCar : List Cond := .code yX5_ofCar cX5_ofCar 3 (some .int) :: ([.fieldLink RX5 7 "GoalLiftsModel" "s" "[I"] ++ wsX50)
def wsX5_putsCar : List Cond := .code yX5_putsCar cX5_putsCar 4 none :: ([.fieldLink RX5 7 "GoalLiftsModel" "s" "[I"] ++ wsX50)
def wsX5_ofCaller : List Cond := .code yX5_ofCaller cX5_ofCaller 3 (some .int) :: ([.fieldLink RX5 7 "GoalLiftsModel" "s" "[I"] ++ wsX50)
def wsX5_puts : List Cond := .code yX5_puts cX5_puts 4 none :: ([.fieldLink RX5 7 "GoalLiftsModel" "s" "[I"] ++ wsX50)
def wsX5_hour : List Cond := .code yX5_hour cX5_hour 1 (some .int) :: ([.fieldLink RX5 7 "GoalLiftsModel" "s" "[I"] ++ wsX50)
def wsX5_isAwake : List Cond := .code yX5_isAwake cX5_isAwake 2 (some .boolean) :: ([.fieldLink RX5 7 "GoalLiftsModel" "s" "[I", .methodLink RX5 30 yX5_hour, .instanceMethod yX5_hour, .selects RX5 yX5_hour yX5_hour, .initialized RX5, .code yX5_hour cX5_hour 1 (some .int)] ++ wsX50)
def wsX5_many : List Cond := .code yX5_many cX5_many 5 (some .int) :: ([.fieldLink RX5 7 "GoalLiftsModel" "s" "[I", .methodLink RX5 34 yX5_ofCaller, .instanceMethod yX5_ofCaller, .selects RX5 yX5_ofCaller yX5_ofCaller, .initialized RX5, .code yX5_ofCaller cX5_ofCaller 3 (some .int)] ++ wsX50)
def wsX5_inAll : List Cond := .code yX5_inAll cX5_inAll 4 (some .int) :: ([.fieldLink RX5 7 "GoalLiftsModel" "s" "[I", .methodLink RX5 34 yX5_ofCaller, .instanceMethod yX5_ofCaller, .selects RX5 yX5_ofCaller yX5_ofCaller, .initialized RX5, .code yX5_ofCaller cX5_ofCaller 3 (some .int)] ++ wsX50)
def wsX5_stops : List Cond := .code yX5_stops cX5_stops 4 (some .int) :: ([.fieldLink RX5 7 "GoalLiftsModel" "s" "[I", .methodLink RX5 34 yX5_ofCaller, .instanceMethod yX5_ofCaller, .selects RX5 yX5_ofCaller yX5_ofCaller, .initialized RX5, .code yX5_ofCaller cX5_ofCaller 3 (some .int), .methodLink RX5 26 yX5_in, .static yX5_in, .code yX5_in cX5_in 3 (some .boolean)] ++ wsX50)
def wsX5_ones : List Cond := .code yX5_ones cX5_ones 3 (some .int) :: ([])
def wsX5_far : List Cond := .code yX5_far cX5_far 2 (some .int) :: ([])
def wsX5_canBeGiven : List Cond := .code yX5_canBeGiven cX5_canBeGiven 5 (some .boolean) :: ([.methodLink RX5 38 yX5_ofCar, .instanceMethod yX5_ofCar, .selects RX5 yX5_ofCar yX5_ofCar, .initialized RX5, .code yX5_ofCar cX5_ofCar 3 (some .int), .fieldLink RX5 7 "GoalLiftsModel" "s" "[I", .methodLink RX5 41 yX5_isAwake, .instanceMethod yX5_isAwake, .selects RX5 yX5_isAwake yX5_isAwake, .code yX5_isAwake cX5_isAwake 2 (some .boolean), .methodLink RX5 30 yX5_hour, .instanceMethod yX5_hour, .selects RX5 yX5_hour yX5_hour, .code yX5_hour cX5_hour 1 (some .int), .methodLink RX5 26 yX5_in, .static yX5_in, .code yX5_in cX5_in 3 (some .boolean)] ++ wsX50)
def wsX5_costOf_r1 : List Cond := [Cond.methodLink RX5 45 yX5_stops, Cond.instanceMethod yX5_stops, Cond.selects RX5 yX5_stops yX5_stops, Cond.initialized RX5, Cond.code yX5_stops cX5_stops 4 (some .int), Cond.fieldLink RX5 7 "GoalLiftsModel" "s" "[I", Cond.methodLink RX5 34 yX5_ofCaller, Cond.instanceMethod yX5_ofCaller, Cond.selects RX5 yX5_ofCaller yX5_ofCaller, Cond.code yX5_ofCaller cX5_ofCaller 3 (some .int), Cond.methodLink RX5 26 yX5_in, Cond.static yX5_in, Cond.code yX5_in cX5_in 3 (some .boolean), Cond.methodLink RX5 49 yX5_ones, Cond.static yX5_ones, Cond.code yX5_ones cX5_ones 3 (some .int), Cond.methodLink RX5 38 yX5_ofCar, Cond.instanceMethod yX5_ofCar, Cond.selects RX5 yX5_ofCar yX5_ofCar, Cond.code yX5_ofCar cX5_ofCar 3 (some .int), Cond.methodLink RX5 52 yX5_far, Cond.static yX5_far, Cond.code yX5_far cX5_far 2 (some .int), Cond.methodLink RX5 55 yX5_many]
def wsX5_costOf_r2 : List Cond := [Cond.instanceMethod yX5_many, Cond.selects RX5 yX5_many yX5_many, Cond.code yX5_many cX5_many 5 (some .int)]
def wsX5_costOf : List Cond := .code yX5_costOf cX5_costOf 5 (some .int) :: ((wsX5_costOf_r1 ++ wsX5_costOf_r2) ++ wsX50)
def wsX5_best_r1 : List Cond := [Cond.fieldLink RX5 7 "GoalLiftsModel" "s" "[I", Cond.methodLink RX5 58 yX5_canBeGiven, Cond.instanceMethod yX5_canBeGiven, Cond.selects RX5 yX5_canBeGiven yX5_canBeGiven, Cond.initialized RX5, Cond.code yX5_canBeGiven cX5_canBeGiven 5 (some .boolean), Cond.methodLink RX5 38 yX5_ofCar, Cond.instanceMethod yX5_ofCar, Cond.selects RX5 yX5_ofCar yX5_ofCar, Cond.code yX5_ofCar cX5_ofCar 3 (some .int), Cond.methodLink RX5 41 yX5_isAwake, Cond.instanceMethod yX5_isAwake, Cond.selects RX5 yX5_isAwake yX5_isAwake, Cond.code yX5_isAwake cX5_isAwake 2 (some .boolean), Cond.methodLink RX5 30 yX5_hour, Cond.instanceMethod yX5_hour, Cond.selects RX5 yX5_hour yX5_hour, Cond.code yX5_hour cX5_hour 1 (some .int), Cond.methodLink RX5 26 yX5_in, Cond.static yX5_in, Cond.code yX5_in cX5_in 3 (some .boolean), Cond.methodLink RX5 61 yX5_costOf, Cond.instanceMethod yX5_costOf, Cond.selects RX5 yX5_costOf yX5_costOf]
def wsX5_best_r2 : List Cond := [Cond.code yX5_costOf cX5_costOf 5 (some .int), Cond.methodLink RX5 45 yX5_stops, Cond.instanceMethod yX5_stops, Cond.selects RX5 yX5_stops yX5_stops, Cond.code yX5_stops cX5_stops 4 (some .int), Cond.methodLink RX5 34 yX5_ofCaller, Cond.instanceMethod yX5_ofCaller, Cond.selects RX5 yX5_ofCaller yX5_ofCaller, Cond.code yX5_ofCaller cX5_ofCaller 3 (some .int), Cond.methodLink RX5 49 yX5_ones, Cond.static yX5_ones, Cond.code yX5_ones cX5_ones 3 (some .int), Cond.methodLink RX5 52 yX5_far, Cond.static yX5_far, Cond.code yX5_far cX5_far 2 (some .int), Cond.methodLink RX5 55 yX5_many, Cond.instanceMethod yX5_many, Cond.selects RX5 yX5_many yX5_many, Cond.code yX5_many cX5_many 5 (some .int)]
def wsX5_best : List Cond := .code yX5_best cX5_best 8 (some .int) :: ((wsX5_best_r1 ++ wsX5_best_r2) ++ wsX50)
def wsX5_gives_r1 : List Cond := [Cond.methodLink RX5 34 yX5_ofCaller, Cond.instanceMethod yX5_ofCaller, Cond.selects RX5 yX5_ofCaller yX5_ofCaller, Cond.initialized RX5, Cond.code yX5_ofCaller cX5_ofCaller 3 (some .int), Cond.fieldLink RX5 7 "GoalLiftsModel" "s" "[I", Cond.methodLink RX5 65 yX5_best, Cond.instanceMethod yX5_best, Cond.selects RX5 yX5_best yX5_best, Cond.code yX5_best cX5_best 8 (some .int), Cond.methodLink RX5 58 yX5_canBeGiven, Cond.instanceMethod yX5_canBeGiven, Cond.selects RX5 yX5_canBeGiven yX5_canBeGiven, Cond.code yX5_canBeGiven cX5_canBeGiven 5 (some .boolean), Cond.methodLink RX5 38 yX5_ofCar, Cond.instanceMethod yX5_ofCar, Cond.selects RX5 yX5_ofCar yX5_ofCar, Cond.code yX5_ofCar cX5_ofCar 3 (some .int), Cond.methodLink RX5 41 yX5_isAwake, Cond.instanceMethod yX5_isAwake, Cond.selects RX5 yX5_isAwake yX5_isAwake, Cond.code yX5_isAwake cX5_isAwake 2 (some .boolean), Cond.methodLink RX5 30 yX5_hour, Cond.instanceMethod yX5_hour]
def wsX5_gives_r2 : List Cond := [Cond.selects RX5 yX5_hour yX5_hour, Cond.code yX5_hour cX5_hour 1 (some .int), Cond.methodLink RX5 26 yX5_in, Cond.static yX5_in, Cond.code yX5_in cX5_in 3 (some .boolean), Cond.methodLink RX5 61 yX5_costOf, Cond.instanceMethod yX5_costOf, Cond.selects RX5 yX5_costOf yX5_costOf, Cond.code yX5_costOf cX5_costOf 5 (some .int), Cond.methodLink RX5 45 yX5_stops, Cond.instanceMethod yX5_stops, Cond.selects RX5 yX5_stops yX5_stops, Cond.code yX5_stops cX5_stops 4 (some .int), Cond.methodLink RX5 49 yX5_ones, Cond.static yX5_ones, Cond.code yX5_ones cX5_ones 3 (some .int), Cond.methodLink RX5 52 yX5_far, Cond.static yX5_far, Cond.code yX5_far cX5_far 2 (some .int), Cond.methodLink RX5 55 yX5_many, Cond.instanceMethod yX5_many, Cond.selects RX5 yX5_many yX5_many, Cond.code yX5_many cX5_many 5 (some .int), Cond.methodLink RX5 68 yX5_puts]
def wsX5_gives_r3 : List Cond := [Cond.instanceMethod yX5_puts, Cond.selects RX5 yX5_puts yX5_puts, Cond.code yX5_puts cX5_puts 4 none]
def wsX5_gives : List Cond := .code yX5_gives cX5_gives 3 none :: ((wsX5_gives_r1 ++ (wsX5_gives_r2 ++ wsX5_gives_r3)) ++ wsX50)
def wsX5_aim : List Cond := .code yX5_aim cX5_aim 8 (some .int) :: ([.fieldLink RX5 7 "GoalLiftsModel" "s" "[I", .methodLink RX5 38 yX5_ofCar, .instanceMethod yX5_ofCar, .selects RX5 yX5_ofCar yX5_ofCar, .initialized RX5, .code yX5_ofCar cX5_ofCar 3 (some .int), .methodLink RX5 34 yX5_ofCaller, .instanceMethod yX5_ofCaller, .selects RX5 yX5_ofCaller yX5_ofCaller, .code yX5_ofCaller cX5_ofCaller 3 (some .int), .methodLink RX5 52 yX5_far, .static yX5_far, .code yX5_far cX5_far 2 (some .int)] ++ wsX50)
def wsX5_isOut : List Cond := .code yX5_isOut cX5_isOut 3 (some .boolean) :: ([.methodLink RX5 34 yX5_ofCaller, .instanceMethod yX5_ofCaller, .selects RX5 yX5_ofCaller yX5_ofCaller, .initialized RX5, .code yX5_ofCaller cX5_ofCaller 3 (some .int), .fieldLink RX5 7 "GoalLiftsModel" "s" "[I", .methodLink RX5 38 yX5_ofCar, .instanceMethod yX5_ofCar, .selects RX5 yX5_ofCar yX5_ofCar, .code yX5_ofCar cX5_ofCar 3 (some .int)] ++ wsX50)
def wsX5_isTaken : List Cond := .code yX5_isTaken cX5_isTaken 3 (some .boolean) :: ([.methodLink RX5 34 yX5_ofCaller, .instanceMethod yX5_ofCaller, .selects RX5 yX5_ofCaller yX5_ofCaller, .initialized RX5, .code yX5_ofCaller cX5_ofCaller 3 (some .int), .fieldLink RX5 7 "GoalLiftsModel" "s" "[I", .methodLink RX5 38 yX5_ofCar, .instanceMethod yX5_ofCar, .selects RX5 yX5_ofCar yX5_ofCar, .code yX5_ofCar cX5_ofCar 3 (some .int)] ++ wsX50)
def wsX5_isStop : List Cond := .code yX5_isStop cX5_isStop 5 (some .boolean) :: ([.fieldLink RX5 7 "GoalLiftsModel" "s" "[I", .methodLink RX5 72 yX5_isOut, .instanceMethod yX5_isOut, .selects RX5 yX5_isOut yX5_isOut, .initialized RX5, .code yX5_isOut cX5_isOut 3 (some .boolean), .methodLink RX5 34 yX5_ofCaller, .instanceMethod yX5_ofCaller, .selects RX5 yX5_ofCaller yX5_ofCaller, .code yX5_ofCaller cX5_ofCaller 3 (some .int), .methodLink RX5 38 yX5_ofCar, .instanceMethod yX5_ofCar, .selects RX5 yX5_ofCar yX5_ofCar, .code yX5_ofCar cX5_ofCar 3 (some .int), .methodLink RX5 76 yX5_isTaken, .instanceMethod yX5_isTaken, .selects RX5 yX5_isTaken yX5_isTaken, .code yX5_isTaken cX5_isTaken 3 (some .boolean), .methodLink RX5 55 yX5_many, .instanceMethod yX5_many, .selects RX5 yX5_many yX5_many, .code yX5_many cX5_many 5 (some .int)] ++ wsX50)
def wsX5_stopsNow_r1 : List Cond := [Cond.fieldLink RX5 7 "GoalLiftsModel" "s" "[I", Cond.methodLink RX5 72 yX5_isOut, Cond.instanceMethod yX5_isOut, Cond.selects RX5 yX5_isOut yX5_isOut, Cond.initialized RX5, Cond.code yX5_isOut cX5_isOut 3 (some .boolean), Cond.methodLink RX5 34 yX5_ofCaller, Cond.instanceMethod yX5_ofCaller, Cond.selects RX5 yX5_ofCaller yX5_ofCaller, Cond.code yX5_ofCaller cX5_ofCaller 3 (some .int), Cond.methodLink RX5 38 yX5_ofCar, Cond.instanceMethod yX5_ofCar, Cond.selects RX5 yX5_ofCar yX5_ofCar, Cond.code yX5_ofCar cX5_ofCar 3 (some .int), Cond.methodLink RX5 68 yX5_puts, Cond.instanceMethod yX5_puts, Cond.selects RX5 yX5_puts yX5_puts, Cond.code yX5_puts cX5_puts 4 none, Cond.methodLink RX5 76 yX5_isTaken, Cond.instanceMethod yX5_isTaken, Cond.selects RX5 yX5_isTaken yX5_isTaken, Cond.code yX5_isTaken cX5_isTaken 3 (some .boolean), Cond.methodLink RX5 55 yX5_many, Cond.instanceMethod yX5_many]
def wsX5_stopsNow_r2 : List Cond := [Cond.selects RX5 yX5_many yX5_many, Cond.code yX5_many cX5_many 5 (some .int)]
def wsX5_stopsNow : List Cond := .code yX5_stopsNow cX5_stopsNow 3 none :: ((wsX5_stopsNow_r1 ++ wsX5_stopsNow_r2) ++ wsX50)
def wsX5_ticks_r1 : List Cond := [Cond.fieldLink RX5 7 "GoalLiftsModel" "s" "[I", Cond.methodLink RX5 34 yX5_ofCaller, Cond.instanceMethod yX5_ofCaller, Cond.selects RX5 yX5_ofCaller yX5_ofCaller, Cond.initialized RX5, Cond.code yX5_ofCaller cX5_ofCaller 3 (some .int), Cond.methodLink RX5 79 yX5_gives, Cond.instanceMethod yX5_gives, Cond.selects RX5 yX5_gives yX5_gives, Cond.code yX5_gives cX5_gives 3 none, Cond.methodLink RX5 65 yX5_best, Cond.instanceMethod yX5_best, Cond.selects RX5 yX5_best yX5_best, Cond.code yX5_best cX5_best 8 (some .int), Cond.methodLink RX5 58 yX5_canBeGiven, Cond.instanceMethod yX5_canBeGiven, Cond.selects RX5 yX5_canBeGiven yX5_canBeGiven, Cond.code yX5_canBeGiven cX5_canBeGiven 5 (some .boolean), Cond.methodLink RX5 38 yX5_ofCar, Cond.instanceMethod yX5_ofCar, Cond.selects RX5 yX5_ofCar yX5_ofCar, Cond.code yX5_ofCar cX5_ofCar 3 (some .int), Cond.methodLink RX5 41 yX5_isAwake, Cond.instanceMethod yX5_isAwake]
def wsX5_ticks_r2 : List Cond := [Cond.selects RX5 yX5_isAwake yX5_isAwake, Cond.code yX5_isAwake cX5_isAwake 2 (some .boolean), Cond.methodLink RX5 30 yX5_hour, Cond.instanceMethod yX5_hour, Cond.selects RX5 yX5_hour yX5_hour, Cond.code yX5_hour cX5_hour 1 (some .int), Cond.methodLink RX5 26 yX5_in, Cond.static yX5_in, Cond.code yX5_in cX5_in 3 (some .boolean), Cond.methodLink RX5 61 yX5_costOf, Cond.instanceMethod yX5_costOf, Cond.selects RX5 yX5_costOf yX5_costOf, Cond.code yX5_costOf cX5_costOf 5 (some .int), Cond.methodLink RX5 45 yX5_stops, Cond.instanceMethod yX5_stops, Cond.selects RX5 yX5_stops yX5_stops, Cond.code yX5_stops cX5_stops 4 (some .int), Cond.methodLink RX5 49 yX5_ones, Cond.static yX5_ones, Cond.code yX5_ones cX5_ones 3 (some .int), Cond.methodLink RX5 52 yX5_far, Cond.static yX5_far, Cond.code yX5_far cX5_far 2 (some .int), Cond.methodLink RX5 55 yX5_many]
def wsX5_ticks_r3 : List Cond := [Cond.instanceMethod yX5_many, Cond.selects RX5 yX5_many yX5_many, Cond.code yX5_many cX5_many 5 (some .int), Cond.methodLink RX5 68 yX5_puts, Cond.instanceMethod yX5_puts, Cond.selects RX5 yX5_puts yX5_puts, Cond.code yX5_puts cX5_puts 4 none, Cond.methodLink RX5 83 yX5_aim, Cond.instanceMethod yX5_aim, Cond.selects RX5 yX5_aim yX5_aim, Cond.code yX5_aim cX5_aim 8 (some .int), Cond.methodLink RX5 86 yX5_isStop, Cond.instanceMethod yX5_isStop, Cond.selects RX5 yX5_isStop yX5_isStop, Cond.code yX5_isStop cX5_isStop 5 (some .boolean), Cond.methodLink RX5 72 yX5_isOut, Cond.instanceMethod yX5_isOut, Cond.selects RX5 yX5_isOut yX5_isOut, Cond.code yX5_isOut cX5_isOut 3 (some .boolean), Cond.methodLink RX5 76 yX5_isTaken, Cond.instanceMethod yX5_isTaken, Cond.selects RX5 yX5_isTaken yX5_isTaken, Cond.code yX5_isTaken cX5_isTaken 3 (some .boolean), Cond.methodLink RX5 89 yX5_stopsNow]
def wsX5_ticks_r4 : List Cond := [Cond.instanceMethod yX5_stopsNow, Cond.selects RX5 yX5_stopsNow yX5_stopsNow, Cond.code yX5_stopsNow cX5_stopsNow 3 none, Cond.methodLink RX5 92 yX5_putsCar, Cond.instanceMethod yX5_putsCar, Cond.selects RX5 yX5_putsCar yX5_putsCar, Cond.code yX5_putsCar cX5_putsCar 4 none]
def wsX5_ticks : List Cond := .code yX5_ticks cX5_ticks 3 none :: ((wsX5_ticks_r1 ++ (wsX5_ticks_r2 ++ (wsX5_ticks_r3 ++ wsX5_ticks_r4))) ++ wsX50)
def wsX5_fails_r1 : List Cond := [Cond.fieldLink RX5 7 "GoalLiftsModel" "s" "[I", Cond.methodLink RX5 34 yX5_ofCaller, Cond.instanceMethod yX5_ofCaller, Cond.selects RX5 yX5_ofCaller yX5_ofCaller, Cond.initialized RX5, Cond.code yX5_ofCaller cX5_ofCaller 3 (some .int), Cond.methodLink RX5 26 yX5_in, Cond.static yX5_in, Cond.code yX5_in cX5_in 3 (some .boolean), Cond.methodLink RX5 72 yX5_isOut, Cond.instanceMethod yX5_isOut, Cond.selects RX5 yX5_isOut yX5_isOut, Cond.code yX5_isOut cX5_isOut 3 (some .boolean), Cond.methodLink RX5 38 yX5_ofCar, Cond.instanceMethod yX5_ofCar, Cond.selects RX5 yX5_ofCar yX5_ofCar, Cond.code yX5_ofCar cX5_ofCar 3 (some .int), Cond.methodLink RX5 68 yX5_puts, Cond.instanceMethod yX5_puts, Cond.selects RX5 yX5_puts yX5_puts, Cond.code yX5_puts cX5_puts 4 none, Cond.methodLink RX5 92 yX5_putsCar, Cond.instanceMethod yX5_putsCar, Cond.selects RX5 yX5_putsCar yX5_putsCar]
def wsX5_fails_r2 : List Cond := [Cond.code yX5_putsCar cX5_putsCar 4 none]
def wsX5_fails : List Cond := .code yX5_fails cX5_fails 4 none :: ((wsX5_fails_r1 ++ wsX5_fails_r2) ++ wsX50)
def wsX5_addCar : List Cond := .code yX5_addCar cX5_addCar 5 (some .int) :: ([.fieldLink RX5 7 "GoalLiftsModel" "s" "[I", .methodLink RX5 26 yX5_in, .static yX5_in, .initialized RX5, .code yX5_in cX5_in 3 (some .boolean), .methodLink RX5 95 yX5_acts, .instanceMethod yX5_acts, .selects RX5 yX5_acts yX5_acts, .code yX5_acts cX5_acts 2 none, .fieldLink RX5 22 "GoalLiftsModel" "pasts" "I", .fieldLink RX5 13 "GoalLiftsModel" "past" "[I", .methodLink RX5 92 yX5_putsCar, .instanceMethod yX5_putsCar, .selects RX5 yX5_putsCar yX5_putsCar, .code yX5_putsCar cX5_putsCar 4 none] ++ wsX50)
def wsX5_setAwake : List Cond := .code yX5_setAwake cX5_setAwake 4 (some .int) :: ([.fieldLink RX5 7 "GoalLiftsModel" "s" "[I", .methodLink RX5 26 yX5_in, .static yX5_in, .initialized RX5, .code yX5_in cX5_in 3 (some .boolean), .methodLink RX5 95 yX5_acts, .instanceMethod yX5_acts, .selects RX5 yX5_acts yX5_acts, .code yX5_acts cX5_acts 2 none, .fieldLink RX5 22 "GoalLiftsModel" "pasts" "I", .fieldLink RX5 13 "GoalLiftsModel" "past" "[I"] ++ wsX50)
def wsX5_hold_r1 : List Cond := [Cond.methodLink RX5 98 yX5_isCar, Cond.instanceMethod yX5_isCar, Cond.selects RX5 yX5_isCar yX5_isCar, Cond.initialized RX5, Cond.code yX5_isCar cX5_isCar 2 (some .boolean), Cond.fieldLink RX5 7 "GoalLiftsModel" "s" "[I", Cond.methodLink RX5 26 yX5_in, Cond.static yX5_in, Cond.code yX5_in cX5_in 3 (some .boolean), Cond.methodLink RX5 38 yX5_ofCar, Cond.instanceMethod yX5_ofCar, Cond.selects RX5 yX5_ofCar yX5_ofCar, Cond.code yX5_ofCar cX5_ofCar 3 (some .int), Cond.methodLink RX5 95 yX5_acts, Cond.instanceMethod yX5_acts, Cond.selects RX5 yX5_acts yX5_acts, Cond.code yX5_acts cX5_acts 2 none, Cond.fieldLink RX5 22 "GoalLiftsModel" "pasts" "I", Cond.fieldLink RX5 13 "GoalLiftsModel" "past" "[I", Cond.methodLink RX5 92 yX5_putsCar, Cond.instanceMethod yX5_putsCar, Cond.selects RX5 yX5_putsCar yX5_putsCar, Cond.code yX5_putsCar cX5_putsCar 4 none, Cond.methodLink RX5 55 yX5_many]
def wsX5_hold_r2 : List Cond := [Cond.instanceMethod yX5_many, Cond.selects RX5 yX5_many yX5_many, Cond.code yX5_many cX5_many 5 (some .int), Cond.methodLink RX5 34 yX5_ofCaller, Cond.instanceMethod yX5_ofCaller, Cond.selects RX5 yX5_ofCaller yX5_ofCaller, Cond.code yX5_ofCaller cX5_ofCaller 3 (some .int)]
def wsX5_hold : List Cond := .code yX5_hold cX5_hold 3 (some .int) :: ((wsX5_hold_r1 ++ wsX5_hold_r2) ++ wsX50)
def wsX5_fail_r1 : List Cond := [Cond.methodLink RX5 98 yX5_isCar, Cond.instanceMethod yX5_isCar, Cond.selects RX5 yX5_isCar yX5_isCar, Cond.initialized RX5, Cond.code yX5_isCar cX5_isCar 2 (some .boolean), Cond.fieldLink RX5 7 "GoalLiftsModel" "s" "[I", Cond.methodLink RX5 38 yX5_ofCar, Cond.instanceMethod yX5_ofCar, Cond.selects RX5 yX5_ofCar yX5_ofCar, Cond.code yX5_ofCar cX5_ofCar 3 (some .int), Cond.methodLink RX5 95 yX5_acts, Cond.instanceMethod yX5_acts, Cond.selects RX5 yX5_acts yX5_acts, Cond.code yX5_acts cX5_acts 2 none, Cond.fieldLink RX5 22 "GoalLiftsModel" "pasts" "I", Cond.fieldLink RX5 13 "GoalLiftsModel" "past" "[I", Cond.methodLink RX5 101 yX5_fails, Cond.instanceMethod yX5_fails, Cond.selects RX5 yX5_fails yX5_fails, Cond.code yX5_fails cX5_fails 4 none, Cond.methodLink RX5 34 yX5_ofCaller, Cond.instanceMethod yX5_ofCaller, Cond.selects RX5 yX5_ofCaller yX5_ofCaller, Cond.code yX5_ofCaller cX5_ofCaller 3 (some .int)]
def wsX5_fail_r2 : List Cond := [Cond.methodLink RX5 26 yX5_in, Cond.static yX5_in, Cond.code yX5_in cX5_in 3 (some .boolean), Cond.methodLink RX5 72 yX5_isOut, Cond.instanceMethod yX5_isOut, Cond.selects RX5 yX5_isOut yX5_isOut, Cond.code yX5_isOut cX5_isOut 3 (some .boolean), Cond.methodLink RX5 68 yX5_puts, Cond.instanceMethod yX5_puts, Cond.selects RX5 yX5_puts yX5_puts, Cond.code yX5_puts cX5_puts 4 none, Cond.methodLink RX5 92 yX5_putsCar, Cond.instanceMethod yX5_putsCar, Cond.selects RX5 yX5_putsCar yX5_putsCar, Cond.code yX5_putsCar cX5_putsCar 4 none, Cond.methodLink RX5 104 yX5_inAll, Cond.instanceMethod yX5_inAll, Cond.selects RX5 yX5_inAll yX5_inAll, Cond.code yX5_inAll cX5_inAll 4 (some .int)]
def wsX5_fail : List Cond := .code yX5_fail cX5_fail 2 (some .int) :: ((wsX5_fail_r1 ++ wsX5_fail_r2) ++ wsX50)
def wsX5_repair : List Cond := .code yX5_repair cX5_repair 2 (some .int) :: ([.methodLink RX5 98 yX5_isCar, .instanceMethod yX5_isCar, .selects RX5 yX5_isCar yX5_isCar, .initialized RX5, .code yX5_isCar cX5_isCar 2 (some .boolean), .fieldLink RX5 7 "GoalLiftsModel" "s" "[I", .methodLink RX5 38 yX5_ofCar, .instanceMethod yX5_ofCar, .selects RX5 yX5_ofCar yX5_ofCar, .code yX5_ofCar cX5_ofCar 3 (some .int), .methodLink RX5 95 yX5_acts, .instanceMethod yX5_acts, .selects RX5 yX5_acts yX5_acts, .code yX5_acts cX5_acts 2 none, .fieldLink RX5 22 "GoalLiftsModel" "pasts" "I", .fieldLink RX5 13 "GoalLiftsModel" "past" "[I", .methodLink RX5 92 yX5_putsCar, .instanceMethod yX5_putsCar, .selects RX5 yX5_putsCar yX5_putsCar, .code yX5_putsCar cX5_putsCar 4 none] ++ wsX50)
def wsX5_isWay : List Cond := .code yX5_isWay cX5_isWay 2 (some .boolean) :: ([.methodLink RX5 107 yX5_isFloor, .static yX5_isFloor, .initialized RX5, .code yX5_isFloor cX5_isFloor 1 (some .boolean), .methodLink RX5 26 yX5_in, .static yX5_in, .code yX5_in cX5_in 3 (some .boolean)])
def wsX5_call_r1 : List Cond := [Cond.fieldLink RX5 7 "GoalLiftsModel" "s" "[I", Cond.methodLink RX5 110 yX5_isWay, Cond.static yX5_isWay, Cond.initialized RX5, Cond.code yX5_isWay cX5_isWay 2 (some .boolean), Cond.methodLink RX5 107 yX5_isFloor, Cond.static yX5_isFloor, Cond.code yX5_isFloor cX5_isFloor 1 (some .boolean), Cond.methodLink RX5 26 yX5_in, Cond.static yX5_in, Cond.code yX5_in cX5_in 3 (some .boolean), Cond.methodLink RX5 95 yX5_acts, Cond.instanceMethod yX5_acts, Cond.selects RX5 yX5_acts yX5_acts, Cond.code yX5_acts cX5_acts 2 none, Cond.fieldLink RX5 22 "GoalLiftsModel" "pasts" "I", Cond.fieldLink RX5 13 "GoalLiftsModel" "past" "[I", Cond.methodLink RX5 68 yX5_puts, Cond.instanceMethod yX5_puts, Cond.selects RX5 yX5_puts yX5_puts, Cond.code yX5_puts cX5_puts 4 none, Cond.methodLink RX5 79 yX5_gives, Cond.instanceMethod yX5_gives, Cond.selects RX5 yX5_gives yX5_gives]
def wsX5_call_r2 : List Cond := [Cond.code yX5_gives cX5_gives 3 none, Cond.methodLink RX5 34 yX5_ofCaller, Cond.instanceMethod yX5_ofCaller, Cond.selects RX5 yX5_ofCaller yX5_ofCaller, Cond.code yX5_ofCaller cX5_ofCaller 3 (some .int), Cond.methodLink RX5 65 yX5_best, Cond.instanceMethod yX5_best, Cond.selects RX5 yX5_best yX5_best, Cond.code yX5_best cX5_best 8 (some .int), Cond.methodLink RX5 58 yX5_canBeGiven, Cond.instanceMethod yX5_canBeGiven, Cond.selects RX5 yX5_canBeGiven yX5_canBeGiven, Cond.code yX5_canBeGiven cX5_canBeGiven 5 (some .boolean), Cond.methodLink RX5 38 yX5_ofCar, Cond.instanceMethod yX5_ofCar, Cond.selects RX5 yX5_ofCar yX5_ofCar, Cond.code yX5_ofCar cX5_ofCar 3 (some .int), Cond.methodLink RX5 41 yX5_isAwake, Cond.instanceMethod yX5_isAwake, Cond.selects RX5 yX5_isAwake yX5_isAwake, Cond.code yX5_isAwake cX5_isAwake 2 (some .boolean), Cond.methodLink RX5 30 yX5_hour, Cond.instanceMethod yX5_hour, Cond.selects RX5 yX5_hour yX5_hour]
def wsX5_call_r3 : List Cond := [Cond.code yX5_hour cX5_hour 1 (some .int), Cond.methodLink RX5 61 yX5_costOf, Cond.instanceMethod yX5_costOf, Cond.selects RX5 yX5_costOf yX5_costOf, Cond.code yX5_costOf cX5_costOf 5 (some .int), Cond.methodLink RX5 45 yX5_stops, Cond.instanceMethod yX5_stops, Cond.selects RX5 yX5_stops yX5_stops, Cond.code yX5_stops cX5_stops 4 (some .int), Cond.methodLink RX5 49 yX5_ones, Cond.static yX5_ones, Cond.code yX5_ones cX5_ones 3 (some .int), Cond.methodLink RX5 52 yX5_far, Cond.static yX5_far, Cond.code yX5_far cX5_far 2 (some .int), Cond.methodLink RX5 55 yX5_many, Cond.instanceMethod yX5_many, Cond.selects RX5 yX5_many yX5_many, Cond.code yX5_many cX5_many 5 (some .int)]
def wsX5_call : List Cond := .code yX5_call cX5_call 4 (some .int) :: ((wsX5_call_r1 ++ (wsX5_call_r2 ++ wsX5_call_r3)) ++ wsX50)
def wsX5_pass_r1 : List Cond := [Cond.fieldLink RX5 7 "GoalLiftsModel" "s" "[I", Cond.methodLink RX5 26 yX5_in, Cond.static yX5_in, Cond.initialized RX5, Cond.code yX5_in cX5_in 3 (some .boolean), Cond.methodLink RX5 95 yX5_acts, Cond.instanceMethod yX5_acts, Cond.selects RX5 yX5_acts yX5_acts, Cond.code yX5_acts cX5_acts 2 none, Cond.fieldLink RX5 22 "GoalLiftsModel" "pasts" "I", Cond.fieldLink RX5 13 "GoalLiftsModel" "past" "[I", Cond.methodLink RX5 113 yX5_ticks, Cond.instanceMethod yX5_ticks, Cond.selects RX5 yX5_ticks yX5_ticks, Cond.code yX5_ticks cX5_ticks 3 none, Cond.methodLink RX5 34 yX5_ofCaller, Cond.instanceMethod yX5_ofCaller, Cond.selects RX5 yX5_ofCaller yX5_ofCaller, Cond.code yX5_ofCaller cX5_ofCaller 3 (some .int), Cond.methodLink RX5 79 yX5_gives, Cond.instanceMethod yX5_gives, Cond.selects RX5 yX5_gives yX5_gives, Cond.code yX5_gives cX5_gives 3 none, Cond.methodLink RX5 65 yX5_best]
def wsX5_pass_r2 : List Cond := [Cond.instanceMethod yX5_best, Cond.selects RX5 yX5_best yX5_best, Cond.code yX5_best cX5_best 8 (some .int), Cond.methodLink RX5 58 yX5_canBeGiven, Cond.instanceMethod yX5_canBeGiven, Cond.selects RX5 yX5_canBeGiven yX5_canBeGiven, Cond.code yX5_canBeGiven cX5_canBeGiven 5 (some .boolean), Cond.methodLink RX5 38 yX5_ofCar, Cond.instanceMethod yX5_ofCar, Cond.selects RX5 yX5_ofCar yX5_ofCar, Cond.code yX5_ofCar cX5_ofCar 3 (some .int), Cond.methodLink RX5 41 yX5_isAwake, Cond.instanceMethod yX5_isAwake, Cond.selects RX5 yX5_isAwake yX5_isAwake, Cond.code yX5_isAwake cX5_isAwake 2 (some .boolean), Cond.methodLink RX5 30 yX5_hour, Cond.instanceMethod yX5_hour, Cond.selects RX5 yX5_hour yX5_hour, Cond.code yX5_hour cX5_hour 1 (some .int), Cond.methodLink RX5 61 yX5_costOf, Cond.instanceMethod yX5_costOf, Cond.selects RX5 yX5_costOf yX5_costOf, Cond.code yX5_costOf cX5_costOf 5 (some .int), Cond.methodLink RX5 45 yX5_stops]
def wsX5_pass_r3 : List Cond := [Cond.instanceMethod yX5_stops, Cond.selects RX5 yX5_stops yX5_stops, Cond.code yX5_stops cX5_stops 4 (some .int), Cond.methodLink RX5 49 yX5_ones, Cond.static yX5_ones, Cond.code yX5_ones cX5_ones 3 (some .int), Cond.methodLink RX5 52 yX5_far, Cond.static yX5_far, Cond.code yX5_far cX5_far 2 (some .int), Cond.methodLink RX5 55 yX5_many, Cond.instanceMethod yX5_many, Cond.selects RX5 yX5_many yX5_many, Cond.code yX5_many cX5_many 5 (some .int), Cond.methodLink RX5 68 yX5_puts, Cond.instanceMethod yX5_puts, Cond.selects RX5 yX5_puts yX5_puts, Cond.code yX5_puts cX5_puts 4 none, Cond.methodLink RX5 83 yX5_aim, Cond.instanceMethod yX5_aim, Cond.selects RX5 yX5_aim yX5_aim, Cond.code yX5_aim cX5_aim 8 (some .int), Cond.methodLink RX5 86 yX5_isStop, Cond.instanceMethod yX5_isStop, Cond.selects RX5 yX5_isStop yX5_isStop]
def wsX5_pass_r4 : List Cond := [Cond.code yX5_isStop cX5_isStop 5 (some .boolean), Cond.methodLink RX5 72 yX5_isOut, Cond.instanceMethod yX5_isOut, Cond.selects RX5 yX5_isOut yX5_isOut, Cond.code yX5_isOut cX5_isOut 3 (some .boolean), Cond.methodLink RX5 76 yX5_isTaken, Cond.instanceMethod yX5_isTaken, Cond.selects RX5 yX5_isTaken yX5_isTaken, Cond.code yX5_isTaken cX5_isTaken 3 (some .boolean), Cond.methodLink RX5 89 yX5_stopsNow, Cond.instanceMethod yX5_stopsNow, Cond.selects RX5 yX5_stopsNow yX5_stopsNow, Cond.code yX5_stopsNow cX5_stopsNow 3 none, Cond.methodLink RX5 92 yX5_putsCar, Cond.instanceMethod yX5_putsCar, Cond.selects RX5 yX5_putsCar yX5_putsCar, Cond.code yX5_putsCar cX5_putsCar 4 none, Cond.methodLink RX5 104 yX5_inAll, Cond.instanceMethod yX5_inAll, Cond.selects RX5 yX5_inAll yX5_inAll, Cond.code yX5_inAll cX5_inAll 4 (some .int)]
def wsX5_pass : List Cond := .code yX5_pass cX5_pass 3 (some .int) :: ((wsX5_pass_r1 ++ (wsX5_pass_r2 ++ (wsX5_pass_r3 ++ wsX5_pass_r4))) ++ wsX50)
def wsX5_undo : List Cond := .code yX5_undo cX5_undo 2 (some .int) :: ([.fieldLink RX5 22 "GoalLiftsModel" "pasts" "I", .fieldLink RX5 7 "GoalLiftsModel" "s" "[I", .fieldLink RX5 13 "GoalLiftsModel" "past" "[I"] ++ wsX50)
def wsX5_isOpen : List Cond := .code yX5_isOpen cX5_isOpen 2 (some .boolean) :: ([.methodLink RX5 34 yX5_ofCaller, .instanceMethod yX5_ofCaller, .selects RX5 yX5_ofCaller yX5_ofCaller, .initialized RX5, .code yX5_ofCaller cX5_ofCaller 3 (some .int), .fieldLink RX5 7 "GoalLiftsModel" "s" "[I"] ++ wsX50)
def wsX5_areOne : List Cond := .code yX5_areOne cX5_areOne 3 (some .boolean) :: ([.methodLink RX5 34 yX5_ofCaller, .instanceMethod yX5_ofCaller, .selects RX5 yX5_ofCaller yX5_ofCaller, .initialized RX5, .code yX5_ofCaller cX5_ofCaller 3 (some .int), .fieldLink RX5 7 "GoalLiftsModel" "s" "[I"] ++ wsX50)
def wsX5_isFirst : List Cond := .code yX5_isFirst cX5_isFirst 4 (some .boolean) :: ([.methodLink RX5 116 yX5_isOpen, .instanceMethod yX5_isOpen, .selects RX5 yX5_isOpen yX5_isOpen, .initialized RX5, .code yX5_isOpen cX5_isOpen 2 (some .boolean), .methodLink RX5 34 yX5_ofCaller, .instanceMethod yX5_ofCaller, .selects RX5 yX5_ofCaller yX5_ofCaller, .code yX5_ofCaller cX5_ofCaller 3 (some .int), .fieldLink RX5 7 "GoalLiftsModel" "s" "[I", .methodLink RX5 119 yX5_areOne, .instanceMethod yX5_areOne, .selects RX5 yX5_areOne yX5_areOne, .code yX5_areOne cX5_areOne 3 (some .boolean)] ++ wsX50)
def wsX5_groups : List Cond := .code yX5_groups cX5_groups 3 (some .int) :: ([.fieldLink RX5 7 "GoalLiftsModel" "s" "[I", .methodLink RX5 122 yX5_isFirst, .instanceMethod yX5_isFirst, .selects RX5 yX5_isFirst yX5_isFirst, .initialized RX5, .code yX5_isFirst cX5_isFirst 4 (some .boolean), .methodLink RX5 116 yX5_isOpen, .instanceMethod yX5_isOpen, .selects RX5 yX5_isOpen yX5_isOpen, .code yX5_isOpen cX5_isOpen 2 (some .boolean), .methodLink RX5 34 yX5_ofCaller, .instanceMethod yX5_ofCaller, .selects RX5 yX5_ofCaller yX5_ofCaller, .code yX5_ofCaller cX5_ofCaller 3 (some .int), .methodLink RX5 119 yX5_areOne, .instanceMethod yX5_areOne, .selects RX5 yX5_areOne yX5_areOne, .code yX5_areOne cX5_areOne 3 (some .boolean)] ++ wsX50)
def wsX5_sumOfCars : List Cond := .code yX5_sumOfCars cX5_sumOfCars 5 (some .int) :: ([.fieldLink RX5 7 "GoalLiftsModel" "s" "[I", .methodLink RX5 38 yX5_ofCar, .instanceMethod yX5_ofCar, .selects RX5 yX5_ofCar yX5_ofCar, .initialized RX5, .code yX5_ofCar cX5_ofCar 3 (some .int)] ++ wsX50)
def wsX5_count_r1 : List Cond := [Cond.fieldLink RX5 7 "GoalLiftsModel" "s" "[I", Cond.fieldLink RX5 22 "GoalLiftsModel" "pasts" "I", Cond.methodLink RX5 30 yX5_hour, Cond.instanceMethod yX5_hour, Cond.selects RX5 yX5_hour yX5_hour, Cond.initialized RX5, Cond.code yX5_hour cX5_hour 1 (some .int), Cond.methodLink RX5 104 yX5_inAll, Cond.instanceMethod yX5_inAll, Cond.selects RX5 yX5_inAll yX5_inAll, Cond.code yX5_inAll cX5_inAll 4 (some .int), Cond.methodLink RX5 34 yX5_ofCaller, Cond.instanceMethod yX5_ofCaller, Cond.selects RX5 yX5_ofCaller yX5_ofCaller, Cond.code yX5_ofCaller cX5_ofCaller 3 (some .int), Cond.methodLink RX5 125 yX5_groups, Cond.instanceMethod yX5_groups, Cond.selects RX5 yX5_groups yX5_groups, Cond.code yX5_groups cX5_groups 3 (some .int), Cond.methodLink RX5 122 yX5_isFirst, Cond.instanceMethod yX5_isFirst, Cond.selects RX5 yX5_isFirst yX5_isFirst, Cond.code yX5_isFirst cX5_isFirst 4 (some .boolean), Cond.methodLink RX5 116 yX5_isOpen]
def wsX5_count_r2 : List Cond := [Cond.instanceMethod yX5_isOpen, Cond.selects RX5 yX5_isOpen yX5_isOpen, Cond.code yX5_isOpen cX5_isOpen 2 (some .boolean), Cond.methodLink RX5 119 yX5_areOne, Cond.instanceMethod yX5_areOne, Cond.selects RX5 yX5_areOne yX5_areOne, Cond.code yX5_areOne cX5_areOne 3 (some .boolean), Cond.methodLink RX5 128 yX5_sumOfCars, Cond.instanceMethod yX5_sumOfCars, Cond.selects RX5 yX5_sumOfCars yX5_sumOfCars, Cond.code yX5_sumOfCars cX5_sumOfCars 5 (some .int), Cond.methodLink RX5 38 yX5_ofCar, Cond.instanceMethod yX5_ofCar, Cond.selects RX5 yX5_ofCar yX5_ofCar, Cond.code yX5_ofCar cX5_ofCar 3 (some .int)]
def wsX5_count : List Cond := .code yX5_count cX5_count 2 (some .int) :: ((wsX5_count_r1 ++ wsX5_count_r2) ++ wsX50)
def wsX5_car_r1 : List Cond := [Cond.methodLink RX5 98 yX5_isCar, Cond.instanceMethod yX5_isCar, Cond.selects RX5 yX5_isCar yX5_isCar, Cond.initialized RX5, Cond.code yX5_isCar cX5_isCar 2 (some .boolean), Cond.fieldLink RX5 7 "GoalLiftsModel" "s" "[I", Cond.methodLink RX5 38 yX5_ofCar, Cond.instanceMethod yX5_ofCar, Cond.selects RX5 yX5_ofCar yX5_ofCar, Cond.code yX5_ofCar cX5_ofCar 3 (some .int), Cond.methodLink RX5 55 yX5_many, Cond.instanceMethod yX5_many, Cond.selects RX5 yX5_many yX5_many, Cond.code yX5_many cX5_many 5 (some .int), Cond.methodLink RX5 34 yX5_ofCaller, Cond.instanceMethod yX5_ofCaller, Cond.selects RX5 yX5_ofCaller yX5_ofCaller, Cond.code yX5_ofCaller cX5_ofCaller 3 (some .int), Cond.methodLink RX5 45 yX5_stops, Cond.instanceMethod yX5_stops, Cond.selects RX5 yX5_stops yX5_stops, Cond.code yX5_stops cX5_stops 4 (some .int), Cond.methodLink RX5 26 yX5_in, Cond.static yX5_in]
def wsX5_car_r2 : List Cond := [Cond.code yX5_in cX5_in 3 (some .boolean), Cond.methodLink RX5 49 yX5_ones, Cond.static yX5_ones, Cond.code yX5_ones cX5_ones 3 (some .int), Cond.methodLink RX5 83 yX5_aim, Cond.instanceMethod yX5_aim, Cond.selects RX5 yX5_aim yX5_aim, Cond.code yX5_aim cX5_aim 8 (some .int), Cond.methodLink RX5 52 yX5_far, Cond.static yX5_far, Cond.code yX5_far cX5_far 2 (some .int), Cond.methodLink RX5 41 yX5_isAwake, Cond.instanceMethod yX5_isAwake, Cond.selects RX5 yX5_isAwake yX5_isAwake, Cond.code yX5_isAwake cX5_isAwake 2 (some .boolean), Cond.methodLink RX5 30 yX5_hour, Cond.instanceMethod yX5_hour, Cond.selects RX5 yX5_hour yX5_hour, Cond.code yX5_hour cX5_hour 1 (some .int)]
def wsX5_car : List Cond := .code yX5_car cX5_car 3 (some .int) :: ((wsX5_car_r1 ++ wsX5_car_r2) ++ wsX50)
def wsX5_caller : List Cond := .code yX5_caller cX5_caller 3 (some .int) :: ([.methodLink RX5 131 yX5_isCaller, .instanceMethod yX5_isCaller, .selects RX5 yX5_isCaller yX5_isCaller, .initialized RX5, .code yX5_isCaller cX5_isCaller 2 (some .boolean), .fieldLink RX5 7 "GoalLiftsModel" "s" "[I", .methodLink RX5 26 yX5_in, .static yX5_in, .code yX5_in cX5_in 3 (some .boolean), .methodLink RX5 34 yX5_ofCaller, .instanceMethod yX5_ofCaller, .selects RX5 yX5_ofCaller yX5_ofCaller, .code yX5_ofCaller cX5_ofCaller 3 (some .int)] ++ wsX50)
def wsX5_group : List Cond := .code yX5_group cX5_group 7 (some .int) :: ([.fieldLink RX5 7 "GoalLiftsModel" "s" "[I", .methodLink RX5 26 yX5_in, .static yX5_in, .initialized RX5, .code yX5_in cX5_in 3 (some .boolean), .methodLink RX5 122 yX5_isFirst, .instanceMethod yX5_isFirst, .selects RX5 yX5_isFirst yX5_isFirst, .code yX5_isFirst cX5_isFirst 4 (some .boolean), .methodLink RX5 116 yX5_isOpen, .instanceMethod yX5_isOpen, .selects RX5 yX5_isOpen yX5_isOpen, .code yX5_isOpen cX5_isOpen 2 (some .boolean), .methodLink RX5 34 yX5_ofCaller, .instanceMethod yX5_ofCaller, .selects RX5 yX5_ofCaller yX5_ofCaller, .code yX5_ofCaller cX5_ofCaller 3 (some .int), .methodLink RX5 119 yX5_areOne, .instanceMethod yX5_areOne, .selects RX5 yX5_areOne yX5_areOne, .code yX5_areOne cX5_areOne 3 (some .boolean)] ++ wsX50)
def wsX5_cost_r1 : List Cond := [Cond.methodLink RX5 98 yX5_isCar, Cond.instanceMethod yX5_isCar, Cond.selects RX5 yX5_isCar yX5_isCar, Cond.initialized RX5, Cond.code yX5_isCar cX5_isCar 2 (some .boolean), Cond.fieldLink RX5 7 "GoalLiftsModel" "s" "[I", Cond.methodLink RX5 110 yX5_isWay, Cond.static yX5_isWay, Cond.code yX5_isWay cX5_isWay 2 (some .boolean), Cond.methodLink RX5 107 yX5_isFloor, Cond.static yX5_isFloor, Cond.code yX5_isFloor cX5_isFloor 1 (some .boolean), Cond.methodLink RX5 26 yX5_in, Cond.static yX5_in, Cond.code yX5_in cX5_in 3 (some .boolean), Cond.methodLink RX5 58 yX5_canBeGiven, Cond.instanceMethod yX5_canBeGiven, Cond.selects RX5 yX5_canBeGiven yX5_canBeGiven, Cond.code yX5_canBeGiven cX5_canBeGiven 5 (some .boolean), Cond.methodLink RX5 38 yX5_ofCar, Cond.instanceMethod yX5_ofCar, Cond.selects RX5 yX5_ofCar yX5_ofCar, Cond.code yX5_ofCar cX5_ofCar 3 (some .int), Cond.methodLink RX5 41 yX5_isAwake]
def wsX5_cost_r2 : List Cond := [Cond.instanceMethod yX5_isAwake, Cond.selects RX5 yX5_isAwake yX5_isAwake, Cond.code yX5_isAwake cX5_isAwake 2 (some .boolean), Cond.methodLink RX5 30 yX5_hour, Cond.instanceMethod yX5_hour, Cond.selects RX5 yX5_hour yX5_hour, Cond.code yX5_hour cX5_hour 1 (some .int), Cond.methodLink RX5 61 yX5_costOf, Cond.instanceMethod yX5_costOf, Cond.selects RX5 yX5_costOf yX5_costOf, Cond.code yX5_costOf cX5_costOf 5 (some .int), Cond.methodLink RX5 45 yX5_stops, Cond.instanceMethod yX5_stops, Cond.selects RX5 yX5_stops yX5_stops, Cond.code yX5_stops cX5_stops 4 (some .int), Cond.methodLink RX5 34 yX5_ofCaller, Cond.instanceMethod yX5_ofCaller, Cond.selects RX5 yX5_ofCaller yX5_ofCaller, Cond.code yX5_ofCaller cX5_ofCaller 3 (some .int), Cond.methodLink RX5 49 yX5_ones, Cond.static yX5_ones, Cond.code yX5_ones cX5_ones 3 (some .int), Cond.methodLink RX5 52 yX5_far, Cond.static yX5_far]
def wsX5_cost_r3 : List Cond := [Cond.code yX5_far cX5_far 2 (some .int), Cond.methodLink RX5 55 yX5_many, Cond.instanceMethod yX5_many, Cond.selects RX5 yX5_many yX5_many, Cond.code yX5_many cX5_many 5 (some .int)]
def wsX5_cost : List Cond := .code yX5_cost cX5_cost 4 (some .int) :: ((wsX5_cost_r1 ++ (wsX5_cost_r2 ++ wsX5_cost_r3)) ++ wsX50)
def wsX5_would_r1 : List Cond := [Cond.methodLink RX5 110 yX5_isWay, Cond.static yX5_isWay, Cond.initialized RX5, Cond.code yX5_isWay cX5_isWay 2 (some .boolean), Cond.methodLink RX5 107 yX5_isFloor, Cond.static yX5_isFloor, Cond.code yX5_isFloor cX5_isFloor 1 (some .boolean), Cond.methodLink RX5 26 yX5_in, Cond.static yX5_in, Cond.code yX5_in cX5_in 3 (some .boolean), Cond.methodLink RX5 65 yX5_best, Cond.instanceMethod yX5_best, Cond.selects RX5 yX5_best yX5_best, Cond.code yX5_best cX5_best 8 (some .int), Cond.fieldLink RX5 7 "GoalLiftsModel" "s" "[I", Cond.methodLink RX5 58 yX5_canBeGiven, Cond.instanceMethod yX5_canBeGiven, Cond.selects RX5 yX5_canBeGiven yX5_canBeGiven, Cond.code yX5_canBeGiven cX5_canBeGiven 5 (some .boolean), Cond.methodLink RX5 38 yX5_ofCar, Cond.instanceMethod yX5_ofCar, Cond.selects RX5 yX5_ofCar yX5_ofCar, Cond.code yX5_ofCar cX5_ofCar 3 (some .int), Cond.methodLink RX5 41 yX5_isAwake]
def wsX5_would_r2 : List Cond := [Cond.instanceMethod yX5_isAwake, Cond.selects RX5 yX5_isAwake yX5_isAwake, Cond.code yX5_isAwake cX5_isAwake 2 (some .boolean), Cond.methodLink RX5 30 yX5_hour, Cond.instanceMethod yX5_hour, Cond.selects RX5 yX5_hour yX5_hour, Cond.code yX5_hour cX5_hour 1 (some .int), Cond.methodLink RX5 61 yX5_costOf, Cond.instanceMethod yX5_costOf, Cond.selects RX5 yX5_costOf yX5_costOf, Cond.code yX5_costOf cX5_costOf 5 (some .int), Cond.methodLink RX5 45 yX5_stops, Cond.instanceMethod yX5_stops, Cond.selects RX5 yX5_stops yX5_stops, Cond.code yX5_stops cX5_stops 4 (some .int), Cond.methodLink RX5 34 yX5_ofCaller, Cond.instanceMethod yX5_ofCaller, Cond.selects RX5 yX5_ofCaller yX5_ofCaller, Cond.code yX5_ofCaller cX5_ofCaller 3 (some .int), Cond.methodLink RX5 49 yX5_ones, Cond.static yX5_ones, Cond.code yX5_ones cX5_ones 3 (some .int), Cond.methodLink RX5 52 yX5_far, Cond.static yX5_far]
def wsX5_would_r3 : List Cond := [Cond.code yX5_far cX5_far 2 (some .int), Cond.methodLink RX5 55 yX5_many, Cond.instanceMethod yX5_many, Cond.selects RX5 yX5_many yX5_many, Cond.code yX5_many cX5_many 5 (some .int)]
def wsX5_would : List Cond := .code yX5_would cX5_would 3 (some .int) :: ((wsX5_would_r1 ++ (wsX5_would_r2 ++ wsX5_would_r3)) ++ wsX50)
def wsX5_thereIn_r1 : List Cond := [Cond.fieldLink RX5 7 "GoalLiftsModel" "s" "[I", Cond.fieldLink RX5 16 "GoalLiftsModel" "held" "[I", Cond.methodLink RX5 131 yX5_isCaller, Cond.instanceMethod yX5_isCaller, Cond.selects RX5 yX5_isCaller yX5_isCaller, Cond.initialized RX5, Cond.code yX5_isCaller cX5_isCaller 2 (some .boolean), Cond.methodLink RX5 134 yX5_copies, Cond.static yX5_copies, Cond.code yX5_copies cX5_copies 3 none, Cond.methodLink RX5 34 yX5_ofCaller, Cond.instanceMethod yX5_ofCaller, Cond.selects RX5 yX5_ofCaller yX5_ofCaller, Cond.code yX5_ofCaller cX5_ofCaller 3 (some .int), Cond.methodLink RX5 113 yX5_ticks, Cond.instanceMethod yX5_ticks, Cond.selects RX5 yX5_ticks yX5_ticks, Cond.code yX5_ticks cX5_ticks 3 none, Cond.methodLink RX5 79 yX5_gives, Cond.instanceMethod yX5_gives, Cond.selects RX5 yX5_gives yX5_gives, Cond.code yX5_gives cX5_gives 3 none, Cond.methodLink RX5 65 yX5_best, Cond.instanceMethod yX5_best]
def wsX5_thereIn_r2 : List Cond := [Cond.selects RX5 yX5_best yX5_best, Cond.code yX5_best cX5_best 8 (some .int), Cond.methodLink RX5 58 yX5_canBeGiven, Cond.instanceMethod yX5_canBeGiven, Cond.selects RX5 yX5_canBeGiven yX5_canBeGiven, Cond.code yX5_canBeGiven cX5_canBeGiven 5 (some .boolean), Cond.methodLink RX5 38 yX5_ofCar, Cond.instanceMethod yX5_ofCar, Cond.selects RX5 yX5_ofCar yX5_ofCar, Cond.code yX5_ofCar cX5_ofCar 3 (some .int), Cond.methodLink RX5 41 yX5_isAwake, Cond.instanceMethod yX5_isAwake, Cond.selects RX5 yX5_isAwake yX5_isAwake, Cond.code yX5_isAwake cX5_isAwake 2 (some .boolean), Cond.methodLink RX5 30 yX5_hour, Cond.instanceMethod yX5_hour, Cond.selects RX5 yX5_hour yX5_hour, Cond.code yX5_hour cX5_hour 1 (some .int), Cond.methodLink RX5 26 yX5_in, Cond.static yX5_in, Cond.code yX5_in cX5_in 3 (some .boolean), Cond.methodLink RX5 61 yX5_costOf, Cond.instanceMethod yX5_costOf, Cond.selects RX5 yX5_costOf yX5_costOf]
def wsX5_thereIn_r3 : List Cond := [Cond.code yX5_costOf cX5_costOf 5 (some .int), Cond.methodLink RX5 45 yX5_stops, Cond.instanceMethod yX5_stops, Cond.selects RX5 yX5_stops yX5_stops, Cond.code yX5_stops cX5_stops 4 (some .int), Cond.methodLink RX5 49 yX5_ones, Cond.static yX5_ones, Cond.code yX5_ones cX5_ones 3 (some .int), Cond.methodLink RX5 52 yX5_far, Cond.static yX5_far, Cond.code yX5_far cX5_far 2 (some .int), Cond.methodLink RX5 55 yX5_many, Cond.instanceMethod yX5_many, Cond.selects RX5 yX5_many yX5_many, Cond.code yX5_many cX5_many 5 (some .int), Cond.methodLink RX5 68 yX5_puts, Cond.instanceMethod yX5_puts, Cond.selects RX5 yX5_puts yX5_puts, Cond.code yX5_puts cX5_puts 4 none, Cond.methodLink RX5 83 yX5_aim, Cond.instanceMethod yX5_aim, Cond.selects RX5 yX5_aim yX5_aim, Cond.code yX5_aim cX5_aim 8 (some .int), Cond.methodLink RX5 86 yX5_isStop]
def wsX5_thereIn_r4 : List Cond := [Cond.instanceMethod yX5_isStop, Cond.selects RX5 yX5_isStop yX5_isStop, Cond.code yX5_isStop cX5_isStop 5 (some .boolean), Cond.methodLink RX5 72 yX5_isOut, Cond.instanceMethod yX5_isOut, Cond.selects RX5 yX5_isOut yX5_isOut, Cond.code yX5_isOut cX5_isOut 3 (some .boolean), Cond.methodLink RX5 76 yX5_isTaken, Cond.instanceMethod yX5_isTaken, Cond.selects RX5 yX5_isTaken yX5_isTaken, Cond.code yX5_isTaken cX5_isTaken 3 (some .boolean), Cond.methodLink RX5 89 yX5_stopsNow, Cond.instanceMethod yX5_stopsNow, Cond.selects RX5 yX5_stopsNow yX5_stopsNow, Cond.code yX5_stopsNow cX5_stopsNow 3 none, Cond.methodLink RX5 92 yX5_putsCar, Cond.instanceMethod yX5_putsCar, Cond.selects RX5 yX5_putsCar yX5_putsCar, Cond.code yX5_putsCar cX5_putsCar 4 none]
def wsX5_thereIn : List Cond := .code yX5_thereIn cX5_thereIn 3 (some .int) :: ((wsX5_thereIn_r1 ++ (wsX5_thereIn_r2 ++ (wsX5_thereIn_r3 ++ wsX5_thereIn_r4))) ++ wsX50)
def wsX5_waited : List Cond := .code yX5_waited cX5_waited 2 (some .int) :: ([.fieldLink RX5 7 "GoalLiftsModel" "s" "[I", .methodLink RX5 34 yX5_ofCaller, .instanceMethod yX5_ofCaller, .selects RX5 yX5_ofCaller yX5_ofCaller, .initialized RX5, .code yX5_ofCaller cX5_ofCaller 3 (some .int)] ++ wsX50)
def wsX5_waits : List Cond := .code yX5_waits cX5_waits 7 (some .int) :: ([.fieldLink RX5 7 "GoalLiftsModel" "s" "[I", .methodLink RX5 26 yX5_in, .static yX5_in, .initialized RX5, .code yX5_in cX5_in 3 (some .boolean), .methodLink RX5 138 yX5_waited, .instanceMethod yX5_waited, .selects RX5 yX5_waited yX5_waited, .code yX5_waited cX5_waited 2 (some .int), .methodLink RX5 34 yX5_ofCaller, .instanceMethod yX5_ofCaller, .selects RX5 yX5_ofCaller yX5_ofCaller, .code yX5_ofCaller cX5_ofCaller 3 (some .int)] ++ wsX50)
def wsX5_allThere_r1 : List Cond := [Cond.fieldLink RX5 7 "GoalLiftsModel" "s" "[I", Cond.methodLink RX5 104 yX5_inAll, Cond.instanceMethod yX5_inAll, Cond.selects RX5 yX5_inAll yX5_inAll, Cond.initialized RX5, Cond.code yX5_inAll cX5_inAll 4 (some .int), Cond.methodLink RX5 34 yX5_ofCaller, Cond.instanceMethod yX5_ofCaller, Cond.selects RX5 yX5_ofCaller yX5_ofCaller, Cond.code yX5_ofCaller cX5_ofCaller 3 (some .int), Cond.methodLink RX5 113 yX5_ticks, Cond.instanceMethod yX5_ticks, Cond.selects RX5 yX5_ticks yX5_ticks, Cond.code yX5_ticks cX5_ticks 3 none, Cond.methodLink RX5 79 yX5_gives, Cond.instanceMethod yX5_gives, Cond.selects RX5 yX5_gives yX5_gives, Cond.code yX5_gives cX5_gives 3 none, Cond.methodLink RX5 65 yX5_best, Cond.instanceMethod yX5_best, Cond.selects RX5 yX5_best yX5_best, Cond.code yX5_best cX5_best 8 (some .int), Cond.methodLink RX5 58 yX5_canBeGiven, Cond.instanceMethod yX5_canBeGiven]
def wsX5_allThere_r2 : List Cond := [Cond.selects RX5 yX5_canBeGiven yX5_canBeGiven, Cond.code yX5_canBeGiven cX5_canBeGiven 5 (some .boolean), Cond.methodLink RX5 38 yX5_ofCar, Cond.instanceMethod yX5_ofCar, Cond.selects RX5 yX5_ofCar yX5_ofCar, Cond.code yX5_ofCar cX5_ofCar 3 (some .int), Cond.methodLink RX5 41 yX5_isAwake, Cond.instanceMethod yX5_isAwake, Cond.selects RX5 yX5_isAwake yX5_isAwake, Cond.code yX5_isAwake cX5_isAwake 2 (some .boolean), Cond.methodLink RX5 30 yX5_hour, Cond.instanceMethod yX5_hour, Cond.selects RX5 yX5_hour yX5_hour, Cond.code yX5_hour cX5_hour 1 (some .int), Cond.methodLink RX5 26 yX5_in, Cond.static yX5_in, Cond.code yX5_in cX5_in 3 (some .boolean), Cond.methodLink RX5 61 yX5_costOf, Cond.instanceMethod yX5_costOf, Cond.selects RX5 yX5_costOf yX5_costOf, Cond.code yX5_costOf cX5_costOf 5 (some .int), Cond.methodLink RX5 45 yX5_stops, Cond.instanceMethod yX5_stops, Cond.selects RX5 yX5_stops yX5_stops]
def wsX5_allThere_r3 : List Cond := [Cond.code yX5_stops cX5_stops 4 (some .int), Cond.methodLink RX5 49 yX5_ones, Cond.static yX5_ones, Cond.code yX5_ones cX5_ones 3 (some .int), Cond.methodLink RX5 52 yX5_far, Cond.static yX5_far, Cond.code yX5_far cX5_far 2 (some .int), Cond.methodLink RX5 55 yX5_many, Cond.instanceMethod yX5_many, Cond.selects RX5 yX5_many yX5_many, Cond.code yX5_many cX5_many 5 (some .int), Cond.methodLink RX5 68 yX5_puts, Cond.instanceMethod yX5_puts, Cond.selects RX5 yX5_puts yX5_puts, Cond.code yX5_puts cX5_puts 4 none, Cond.methodLink RX5 83 yX5_aim, Cond.instanceMethod yX5_aim, Cond.selects RX5 yX5_aim yX5_aim, Cond.code yX5_aim cX5_aim 8 (some .int), Cond.methodLink RX5 86 yX5_isStop, Cond.instanceMethod yX5_isStop, Cond.selects RX5 yX5_isStop yX5_isStop, Cond.code yX5_isStop cX5_isStop 5 (some .boolean), Cond.methodLink RX5 72 yX5_isOut]
def wsX5_allThere_r4 : List Cond := [Cond.instanceMethod yX5_isOut, Cond.selects RX5 yX5_isOut yX5_isOut, Cond.code yX5_isOut cX5_isOut 3 (some .boolean), Cond.methodLink RX5 76 yX5_isTaken, Cond.instanceMethod yX5_isTaken, Cond.selects RX5 yX5_isTaken yX5_isTaken, Cond.code yX5_isTaken cX5_isTaken 3 (some .boolean), Cond.methodLink RX5 89 yX5_stopsNow, Cond.instanceMethod yX5_stopsNow, Cond.selects RX5 yX5_stopsNow yX5_stopsNow, Cond.code yX5_stopsNow cX5_stopsNow 3 none, Cond.methodLink RX5 92 yX5_putsCar, Cond.instanceMethod yX5_putsCar, Cond.selects RX5 yX5_putsCar yX5_putsCar, Cond.code yX5_putsCar cX5_putsCar 4 none]
def wsX5_allThere : List Cond := .code yX5_allThere cX5_allThere 2 (some .int) :: ((wsX5_allThere_r1 ++ (wsX5_allThere_r2 ++ (wsX5_allThere_r3 ++ wsX5_allThere_r4))) ++ wsX50)
def wsX5_worstCar_r1 : List Cond := [Cond.fieldLink RX5 7 "GoalLiftsModel" "s" "[I", Cond.fieldLink RX5 19 "GoalLiftsModel" "tried" "[I", Cond.methodLink RX5 26 yX5_in, Cond.static yX5_in, Cond.initialized RX5, Cond.code yX5_in cX5_in 3 (some .boolean), Cond.methodLink RX5 38 yX5_ofCar, Cond.instanceMethod yX5_ofCar, Cond.selects RX5 yX5_ofCar yX5_ofCar, Cond.code yX5_ofCar cX5_ofCar 3 (some .int), Cond.methodLink RX5 134 yX5_copies, Cond.static yX5_copies, Cond.code yX5_copies cX5_copies 3 none, Cond.methodLink RX5 101 yX5_fails, Cond.instanceMethod yX5_fails, Cond.selects RX5 yX5_fails yX5_fails, Cond.code yX5_fails cX5_fails 4 none, Cond.methodLink RX5 34 yX5_ofCaller, Cond.instanceMethod yX5_ofCaller, Cond.selects RX5 yX5_ofCaller yX5_ofCaller, Cond.code yX5_ofCaller cX5_ofCaller 3 (some .int), Cond.methodLink RX5 72 yX5_isOut, Cond.instanceMethod yX5_isOut, Cond.selects RX5 yX5_isOut yX5_isOut]
def wsX5_worstCar_r2 : List Cond := [Cond.code yX5_isOut cX5_isOut 3 (some .boolean), Cond.methodLink RX5 68 yX5_puts, Cond.instanceMethod yX5_puts, Cond.selects RX5 yX5_puts yX5_puts, Cond.code yX5_puts cX5_puts 4 none, Cond.methodLink RX5 92 yX5_putsCar, Cond.instanceMethod yX5_putsCar, Cond.selects RX5 yX5_putsCar yX5_putsCar, Cond.code yX5_putsCar cX5_putsCar 4 none, Cond.methodLink RX5 141 yX5_allThere, Cond.instanceMethod yX5_allThere, Cond.selects RX5 yX5_allThere yX5_allThere, Cond.code yX5_allThere cX5_allThere 2 (some .int), Cond.methodLink RX5 104 yX5_inAll, Cond.instanceMethod yX5_inAll, Cond.selects RX5 yX5_inAll yX5_inAll, Cond.code yX5_inAll cX5_inAll 4 (some .int), Cond.methodLink RX5 113 yX5_ticks, Cond.instanceMethod yX5_ticks, Cond.selects RX5 yX5_ticks yX5_ticks, Cond.code yX5_ticks cX5_ticks 3 none, Cond.methodLink RX5 79 yX5_gives, Cond.instanceMethod yX5_gives, Cond.selects RX5 yX5_gives yX5_gives]
def wsX5_worstCar_r3 : List Cond := [Cond.code yX5_gives cX5_gives 3 none, Cond.methodLink RX5 65 yX5_best, Cond.instanceMethod yX5_best, Cond.selects RX5 yX5_best yX5_best, Cond.code yX5_best cX5_best 8 (some .int), Cond.methodLink RX5 58 yX5_canBeGiven, Cond.instanceMethod yX5_canBeGiven, Cond.selects RX5 yX5_canBeGiven yX5_canBeGiven, Cond.code yX5_canBeGiven cX5_canBeGiven 5 (some .boolean), Cond.methodLink RX5 41 yX5_isAwake, Cond.instanceMethod yX5_isAwake, Cond.selects RX5 yX5_isAwake yX5_isAwake, Cond.code yX5_isAwake cX5_isAwake 2 (some .boolean), Cond.methodLink RX5 30 yX5_hour, Cond.instanceMethod yX5_hour, Cond.selects RX5 yX5_hour yX5_hour, Cond.code yX5_hour cX5_hour 1 (some .int), Cond.methodLink RX5 61 yX5_costOf, Cond.instanceMethod yX5_costOf, Cond.selects RX5 yX5_costOf yX5_costOf, Cond.code yX5_costOf cX5_costOf 5 (some .int), Cond.methodLink RX5 45 yX5_stops, Cond.instanceMethod yX5_stops, Cond.selects RX5 yX5_stops yX5_stops]
def wsX5_worstCar_r4 : List Cond := [Cond.code yX5_stops cX5_stops 4 (some .int), Cond.methodLink RX5 49 yX5_ones, Cond.static yX5_ones, Cond.code yX5_ones cX5_ones 3 (some .int), Cond.methodLink RX5 52 yX5_far, Cond.static yX5_far, Cond.code yX5_far cX5_far 2 (some .int), Cond.methodLink RX5 55 yX5_many, Cond.instanceMethod yX5_many, Cond.selects RX5 yX5_many yX5_many, Cond.code yX5_many cX5_many 5 (some .int), Cond.methodLink RX5 83 yX5_aim, Cond.instanceMethod yX5_aim, Cond.selects RX5 yX5_aim yX5_aim, Cond.code yX5_aim cX5_aim 8 (some .int), Cond.methodLink RX5 86 yX5_isStop, Cond.instanceMethod yX5_isStop, Cond.selects RX5 yX5_isStop yX5_isStop, Cond.code yX5_isStop cX5_isStop 5 (some .boolean), Cond.methodLink RX5 76 yX5_isTaken, Cond.instanceMethod yX5_isTaken, Cond.selects RX5 yX5_isTaken yX5_isTaken, Cond.code yX5_isTaken cX5_isTaken 3 (some .boolean), Cond.methodLink RX5 89 yX5_stopsNow]
def wsX5_worstCar_r5 : List Cond := [Cond.instanceMethod yX5_stopsNow, Cond.selects RX5 yX5_stopsNow yX5_stopsNow, Cond.code yX5_stopsNow cX5_stopsNow 3 none]
def wsX5_worstCar : List Cond := .code yX5_worstCar cX5_worstCar 6 (some .int) :: ((wsX5_worstCar_r1 ++ (wsX5_worstCar_r2 ++ (wsX5_worstCar_r3 ++ (wsX5_worstCar_r4 ++ wsX5_worstCar_r5)))) ++ wsX50)
def wsJ9_abs_0f7a4 : List Cond := .code yJ9_abs_0f7a4 cJ9_abs_0f7a4 1 (some .int) :: ([])
def wsJ9_min_7cf53 : List Cond := .code yJ9_min_7cf53 cJ9_min_7cf53 2 (some .int) :: ([])
def wsL_law_r1 : List Cond := [Cond.classLink RL 7 RX4, Cond.instantiable RX4 3, Cond.initialized RX4, Cond.classLink RL 10 RX5, Cond.instantiable RX5 5, Cond.initialized RX5, Cond.methodLink RL 9 yX4_init, Cond.instanceMethod yX4_init, Cond.code yX4_init cX4_init 1 none, Cond.methodLink RX4 1 objectInit, Cond.instanceMethod objectInit, Cond.code objectInit ⟨#[0xb1]⟩ 1 none, Cond.classLink RX4 7 RX3, Cond.instantiable RX3 4, Cond.initialized RX3, Cond.fieldLink RX4 10 "GoalLifts" "house" "LGoalLifts$House;", Cond.fieldLink RX4 16 "GoalLifts" "forecast" "LGoalLifts$House;", Cond.classLink RX4 19 RX2, Cond.instantiable RX2 3, Cond.initialized RX2, Cond.fieldLink RX4 22 "GoalLifts" "history" "LGoalLifts$History;", Cond.methodLink RX4 9 yX3_init, Cond.instanceMethod yX3_init, Cond.code yX3_init cX3_init 2 none]
def wsL_law_r2 : List Cond := [Cond.methodLink RX3 3 objectInit, Cond.arrayClass .int, Cond.fieldLink RX3 9 "GoalLifts$House" "awake" "[I", Cond.classLink RX3 15 RX1, Cond.instantiable RX1 8, Cond.initialized RX1, Cond.fieldLink RX3 18 "GoalLifts$House" "cars" "LGoalLifts$Cars;", Cond.classLink RX3 22 RX0, Cond.instantiable RX0 9, Cond.initialized RX0, Cond.fieldLink RX3 25 "GoalLifts$House" "callers" "LGoalLifts$Callers;", Cond.instanceMethod yX1_init, Cond.code yX1_init cX1_init 1 none, Cond.methodLink RX1 3 objectInit, Cond.fieldLink RX1 9 "GoalLifts$Cars" "lowest" "[I", Cond.fieldLink RX1 15 "GoalLifts$Cars" "highest" "[I", Cond.fieldLink RX1 18 "GoalLifts$Cars" "places" "[I", Cond.fieldLink RX1 21 "GoalLifts$Cars" "floor" "[I", Cond.fieldLink RX1 24 "GoalLifts$Cars" "state" "[I", Cond.fieldLink RX1 27 "GoalLifts$Cars" "travelled" "[I", Cond.instanceMethod yX0_init, Cond.code yX0_init cX0_init 1 none, Cond.methodLink RX0 3 objectInit, Cond.fieldLink RX0 9 "GoalLifts$Callers" "floor" "[I"]
def wsL_law_r3 : List Cond := [Cond.fieldLink RX0 15 "GoalLifts$Callers" "goal" "[I", Cond.fieldLink RX0 18 "GoalLifts$Callers" "phase" "[I", Cond.fieldLink RX0 21 "GoalLifts$Callers" "given" "[I", Cond.fieldLink RX0 24 "GoalLifts$Callers" "calledAt" "[I", Cond.fieldLink RX0 27 "GoalLifts$Callers" "rodeAt" "[I", Cond.fieldLink RX0 30 "GoalLifts$Callers" "thereAt" "[I", Cond.fieldLink RX0 33 "GoalLifts$Callers" "timesGiven" "[I", Cond.methodLink RX4 21 yX2_init, Cond.instanceMethod yX2_init, Cond.code yX2_init cX2_init 2 none, Cond.methodLink RX2 3 objectInit, Cond.classLink RX2 9 RX3, Cond.fieldLink RX2 11 "GoalLifts$History" "states" "[LGoalLifts$House;", Cond.methodLink RX2 17 yX3_init, Cond.methodLink RL 12 yX5_init, Cond.instanceMethod yX5_init, Cond.code yX5_init cX5_init 2 none, Cond.methodLink RX5 1 objectInit, Cond.fieldLink RX5 7 "GoalLiftsModel" "s" "[I", Cond.fieldLink RX5 13 "GoalLiftsModel" "past" "[I", Cond.fieldLink RX5 16 "GoalLiftsModel" "held" "[I", Cond.fieldLink RX5 19 "GoalLiftsModel" "tried" "[I", Cond.methodLink RL 13 yX4_addCar, Cond.instanceMethod yX4_addCar]
def wsL_law_r4 : List Cond := [Cond.selects RX4 yX4_addCar yX4_addCar, Cond.code yX4_addCar cX4_addCar 4 (some .int), Cond.fieldLink RX4 30 "GoalLifts$House" "cars" "LGoalLifts$Cars;", Cond.fieldLink RX4 34 "GoalLifts$Cars" "count" "I", Cond.methodLink RX4 26 yX4_isFloor, Cond.static yX4_isFloor, Cond.code yX4_isFloor cX4_isFloor 1 (some .boolean), Cond.methodLink RX4 40 yX2_keep, Cond.instanceMethod yX2_keep, Cond.selects RX2 yX2_keep yX2_keep, Cond.code yX2_keep cX2_keep 3 none, Cond.fieldLink RX2 18 "GoalLifts$History" "next" "I", Cond.fieldLink RX2 32 "GoalLifts$History" "count" "I", Cond.methodLink RX2 35 Lib.Math.min.name, Cond.static Lib.Math.min.name, Cond.initialized "java/lang/Math", Cond.code Lib.Math.min.name Lib.Math.min.code 2 (some .int), Cond.methodLink RX2 22 yX3_copyFrom, Cond.instanceMethod yX3_copyFrom, Cond.selects RX3 yX3_copyFrom yX3_copyFrom, Cond.code yX3_copyFrom cX3_copyFrom 2 none, Cond.fieldLink RX3 29 "GoalLifts$House" "tick" "I", Cond.methodLink RX3 33 arraycopyName, Cond.native arraycopyName]
def wsL_law_r5 : List Cond := [Cond.static arraycopyName, Cond.initialized "java/lang/System", Cond.methodLink RX3 39 yX1_copyFrom, Cond.instanceMethod yX1_copyFrom, Cond.selects RX1 yX1_copyFrom yX1_copyFrom, Cond.code yX1_copyFrom cX1_copyFrom 2 none, Cond.fieldLink RX1 30 "GoalLifts$Cars" "count" "I", Cond.fieldLink RX1 34 "GoalLifts$Cars" "stopsMade" "I", Cond.methodLink RX1 37 arraycopyName, Cond.methodLink RX3 43 yX0_copyFrom, Cond.instanceMethod yX0_copyFrom, Cond.selects RX0 yX0_copyFrom yX0_copyFrom, Cond.code yX0_copyFrom cX0_copyFrom 2 none, Cond.fieldLink RX0 36 "GoalLifts$Callers" "count" "I", Cond.methodLink RX0 40 arraycopyName, Cond.methodLink RX2 26 yJ9_floorMod_7cf53, Cond.static yJ9_floorMod_7cf53, Cond.initialized RJ9, Cond.code yJ9_floorMod_7cf53 cJ9_floorMod_7cf53 3 (some .int), Cond.methodLink RX4 44 yX1_add, Cond.instanceMethod yX1_add, Cond.selects RX1 yX1_add yX1_add, Cond.code yX1_add cX1_add 5 (some .int), Cond.methodLink RL 17 yX5_addCar]
def wsL_law_r6 : List Cond := [Cond.instanceMethod yX5_addCar, Cond.selects RX5 yX5_addCar yX5_addCar, Cond.code yX5_addCar cX5_addCar 5 (some .int), Cond.methodLink RX5 26 yX5_in, Cond.static yX5_in, Cond.code yX5_in cX5_in 3 (some .boolean), Cond.methodLink RX5 95 yX5_acts, Cond.instanceMethod yX5_acts, Cond.selects RX5 yX5_acts yX5_acts, Cond.code yX5_acts cX5_acts 2 none, Cond.fieldLink RX5 22 "GoalLiftsModel" "pasts" "I", Cond.methodLink RX5 92 yX5_putsCar, Cond.instanceMethod yX5_putsCar, Cond.selects RX5 yX5_putsCar yX5_putsCar, Cond.code yX5_putsCar cX5_putsCar 4 none, Cond.methodLink RL 18 yX4_setAwake, Cond.instanceMethod yX4_setAwake, Cond.selects RX4 yX4_setAwake yX4_setAwake, Cond.code yX4_setAwake cX4_setAwake 4 (some .int), Cond.fieldLink RX4 48 "GoalLifts$House" "awake" "[I", Cond.methodLink RL 22 yX5_setAwake, Cond.instanceMethod yX5_setAwake, Cond.selects RX5 yX5_setAwake yX5_setAwake, Cond.code yX5_setAwake cX5_setAwake 4 (some .int)]
def wsL_law_r7 : List Cond := [Cond.methodLink RL 23 yX4_hold, Cond.instanceMethod yX4_hold, Cond.selects RX4 yX4_hold yX4_hold, Cond.code yX4_hold cX4_hold 5 (some .int), Cond.fieldLink RX4 55 "GoalLifts$Cars" "state" "[I", Cond.fieldLink RX4 58 "GoalLifts$House" "callers" "LGoalLifts$Callers;", Cond.methodLink RX4 52 yX1_has, Cond.instanceMethod yX1_has, Cond.selects RX1 yX1_has yX1_has, Cond.code yX1_has cX1_has 2 (some .boolean), Cond.methodLink RX4 62 yX0_numberWith, Cond.instanceMethod yX0_numberWith, Cond.selects RX0 yX0_numberWith yX0_numberWith, Cond.code yX0_numberWith cX0_numberWith 2 (some .int), Cond.methodLink RX0 50 yX0_numberOf, Cond.instanceMethod yX0_numberOf, Cond.selects RX0 yX0_numberOf yX0_numberOf, Cond.code yX0_numberOf cX0_numberOf 5 (some .int), Cond.methodLink RL 26 yX5_hold, Cond.instanceMethod yX5_hold, Cond.selects RX5 yX5_hold yX5_hold, Cond.code yX5_hold cX5_hold 3 (some .int), Cond.methodLink RX5 98 yX5_isCar, Cond.instanceMethod yX5_isCar]
def wsL_law_r8 : List Cond := [Cond.selects RX5 yX5_isCar yX5_isCar, Cond.code yX5_isCar cX5_isCar 2 (some .boolean), Cond.methodLink RX5 38 yX5_ofCar, Cond.instanceMethod yX5_ofCar, Cond.selects RX5 yX5_ofCar yX5_ofCar, Cond.code yX5_ofCar cX5_ofCar 3 (some .int), Cond.methodLink RX5 55 yX5_many, Cond.instanceMethod yX5_many, Cond.selects RX5 yX5_many yX5_many, Cond.code yX5_many cX5_many 5 (some .int), Cond.methodLink RX5 34 yX5_ofCaller, Cond.instanceMethod yX5_ofCaller, Cond.selects RX5 yX5_ofCaller yX5_ofCaller, Cond.code yX5_ofCaller cX5_ofCaller 3 (some .int), Cond.methodLink RL 27 yX4_fail, Cond.instanceMethod yX4_fail, Cond.selects RX4 yX4_fail yX4_fail, Cond.code yX4_fail cX4_fail 2 (some .int), Cond.methodLink RX4 68 yX3_breakCar, Cond.instanceMethod yX3_breakCar, Cond.selects RX3 yX3_breakCar yX3_breakCar, Cond.code yX3_breakCar cX3_breakCar 2 none, Cond.fieldLink RX3 56 "GoalLifts$Cars" "state" "[I", Cond.fieldLink RX3 67 "GoalLifts$Cars" "floor" "[I"]
def wsL_law_r9 : List Cond := [Cond.methodLink RX3 134 yX0_loseCar, Cond.instanceMethod yX0_loseCar, Cond.selects RX0 yX0_loseCar yX0_loseCar, Cond.code yX0_loseCar cX0_loseCar 6 none, Cond.methodLink RX0 58 yX0_rides, Cond.instanceMethod yX0_rides, Cond.selects RX0 yX0_rides yX0_rides, Cond.code yX0_rides cX0_rides 3 (some .boolean), Cond.methodLink RX0 54 yX0_waitsFor, Cond.instanceMethod yX0_waitsFor, Cond.selects RX0 yX0_waitsFor yX0_waitsFor, Cond.code yX0_waitsFor cX0_waitsFor 3 (some .boolean), Cond.methodLink RX4 72 yX0_numberIn, Cond.instanceMethod yX0_numberIn, Cond.selects RX0 yX0_numberIn yX0_numberIn, Cond.code yX0_numberIn cX0_numberIn 4 (some .int), Cond.methodLink RL 31 yX5_fail, Cond.instanceMethod yX5_fail, Cond.selects RX5 yX5_fail yX5_fail, Cond.code yX5_fail cX5_fail 2 (some .int), Cond.methodLink RX5 101 yX5_fails, Cond.instanceMethod yX5_fails, Cond.selects RX5 yX5_fails yX5_fails, Cond.code yX5_fails cX5_fails 4 none]
def wsL_law_r10 : List Cond := [Cond.methodLink RX5 72 yX5_isOut, Cond.instanceMethod yX5_isOut, Cond.selects RX5 yX5_isOut yX5_isOut, Cond.code yX5_isOut cX5_isOut 3 (some .boolean), Cond.methodLink RX5 68 yX5_puts, Cond.instanceMethod yX5_puts, Cond.selects RX5 yX5_puts yX5_puts, Cond.code yX5_puts cX5_puts 4 none, Cond.methodLink RX5 104 yX5_inAll, Cond.instanceMethod yX5_inAll, Cond.selects RX5 yX5_inAll yX5_inAll, Cond.code yX5_inAll cX5_inAll 4 (some .int), Cond.methodLink RL 32 yX4_repair, Cond.instanceMethod yX4_repair, Cond.selects RX4 yX4_repair yX4_repair, Cond.code yX4_repair cX4_repair 2 (some .int), Cond.fieldLink RX4 75 "GoalLifts$Cars" "floor" "[I", Cond.methodLink RL 35 yX5_repair, Cond.instanceMethod yX5_repair, Cond.selects RX5 yX5_repair yX5_repair, Cond.code yX5_repair cX5_repair 2 (some .int), Cond.methodLink RL 36 yX4_call, Cond.instanceMethod yX4_call, Cond.selects RX4 yX4_call yX4_call]
def wsL_law_r11 : List Cond := [Cond.code yX4_call cX4_call 5 (some .int), Cond.fieldLink RX4 82 "GoalLifts$Callers" "count" "I", Cond.fieldLink RX4 87 "GoalLifts$House" "tick" "I", Cond.methodLink RX4 78 yX4_isWay, Cond.static yX4_isWay, Cond.code yX4_isWay cX4_isWay 2 (some .boolean), Cond.methodLink RX4 83 yX3_bestCar, Cond.instanceMethod yX3_bestCar, Cond.selects RX3 yX3_bestCar yX3_bestCar, Cond.code yX3_bestCar cX3_bestCar 7 (some .int), Cond.fieldLink RX3 85 "GoalLifts$Cars" "count" "I", Cond.methodLink RX3 88 yX3_canBeGiven, Cond.instanceMethod yX3_canBeGiven, Cond.selects RX3 yX3_canBeGiven yX3_canBeGiven, Cond.code yX3_canBeGiven cX3_canBeGiven 4 (some .boolean), Cond.methodLink RX3 59 yX3_isAwake, Cond.instanceMethod yX3_isAwake, Cond.selects RX3 yX3_isAwake yX3_isAwake, Cond.code yX3_isAwake cX3_isAwake 2 (some .boolean), Cond.methodLink RX3 52 yX3_hour, Cond.instanceMethod yX3_hour, Cond.selects RX3 yX3_hour yX3_hour, Cond.code yX3_hour cX3_hour 1 (some .int), Cond.methodLink RX3 46 yJ9_floorMod_7cf53]
def wsL_law_r12 : List Cond := [Cond.methodLink RX3 63 yX1_serves, Cond.instanceMethod yX1_serves, Cond.selects RX1 yX1_serves yX1_serves, Cond.code yX1_serves cX1_serves 3 (some .boolean), Cond.methodLink RX3 92 yX3_costOf, Cond.instanceMethod yX3_costOf, Cond.selects RX3 yX3_costOf yX3_costOf, Cond.code yX3_costOf cX3_costOf 6 (some .int), Cond.methodLink RX3 70 Lib.Math.abs.name, Cond.static Lib.Math.abs.name, Cond.code Lib.Math.abs.name Lib.Math.abs.code 1 (some .int), Cond.methodLink RX3 74 yX0_stopsOf, Cond.instanceMethod yX0_stopsOf, Cond.selects RX0 yX0_stopsOf yX0_stopsOf, Cond.code yX0_stopsOf cX0_stopsOf 4 (some .int), Cond.methodLink RX3 77 yJ6_bitCount_0f7a4, Cond.static yJ6_bitCount_0f7a4, Cond.initialized RJ6, Cond.code yJ6_bitCount_0f7a4 cJ6_bitCount_0f7a4 1 (some .int), Cond.constant RJ6 265 (1431655765), Cond.constant RJ6 266 (858993459), Cond.constant RJ6 267 (252645135), Cond.methodLink RX3 82 yX0_numberWith, Cond.methodLink RX4 90 yX0_add]
def wsL_law_r13 : List Cond := [Cond.instanceMethod yX0_add, Cond.selects RX0 yX0_add yX0_add, Cond.code yX0_add cX0_add 5 (some .int), Cond.methodLink RX4 91 yX0_give, Cond.instanceMethod yX0_give, Cond.selects RX0 yX0_give yX0_give, Cond.code yX0_give cX0_give 3 none, Cond.methodLink RX0 46 yX0_has, Cond.instanceMethod yX0_has, Cond.selects RX0 yX0_has yX0_has, Cond.code yX0_has cX0_has 2 (some .boolean), Cond.methodLink RL 39 yX5_call, Cond.instanceMethod yX5_call, Cond.selects RX5 yX5_call yX5_call, Cond.code yX5_call cX5_call 4 (some .int), Cond.methodLink RX5 110 yX5_isWay, Cond.static yX5_isWay, Cond.code yX5_isWay cX5_isWay 2 (some .boolean), Cond.methodLink RX5 107 yX5_isFloor, Cond.static yX5_isFloor, Cond.code yX5_isFloor cX5_isFloor 1 (some .boolean), Cond.methodLink RX5 79 yX5_gives, Cond.instanceMethod yX5_gives, Cond.selects RX5 yX5_gives yX5_gives]
def wsL_law_r14 : List Cond := [Cond.code yX5_gives cX5_gives 3 none, Cond.methodLink RX5 65 yX5_best, Cond.instanceMethod yX5_best, Cond.selects RX5 yX5_best yX5_best, Cond.code yX5_best cX5_best 8 (some .int), Cond.methodLink RX5 58 yX5_canBeGiven, Cond.instanceMethod yX5_canBeGiven, Cond.selects RX5 yX5_canBeGiven yX5_canBeGiven, Cond.code yX5_canBeGiven cX5_canBeGiven 5 (some .boolean), Cond.methodLink RX5 41 yX5_isAwake, Cond.instanceMethod yX5_isAwake, Cond.selects RX5 yX5_isAwake yX5_isAwake, Cond.code yX5_isAwake cX5_isAwake 2 (some .boolean), Cond.methodLink RX5 30 yX5_hour, Cond.instanceMethod yX5_hour, Cond.selects RX5 yX5_hour yX5_hour, Cond.code yX5_hour cX5_hour 1 (some .int), Cond.methodLink RX5 61 yX5_costOf, Cond.instanceMethod yX5_costOf, Cond.selects RX5 yX5_costOf yX5_costOf, Cond.code yX5_costOf cX5_costOf 5 (some .int), Cond.methodLink RX5 45 yX5_stops, Cond.instanceMethod yX5_stops, Cond.selects RX5 yX5_stops yX5_stops]
def wsL_law_r15 : List Cond := [Cond.code yX5_stops cX5_stops 4 (some .int), Cond.methodLink RX5 49 yX5_ones, Cond.static yX5_ones, Cond.code yX5_ones cX5_ones 3 (some .int), Cond.methodLink RX5 52 yX5_far, Cond.static yX5_far, Cond.code yX5_far cX5_far 2 (some .int), Cond.methodLink RL 40 yX4_pass, Cond.instanceMethod yX4_pass, Cond.selects RX4 yX4_pass yX4_pass, Cond.code yX4_pass cX4_pass 3 (some .int), Cond.methodLink RX4 95 yX3_oneTick, Cond.instanceMethod yX3_oneTick, Cond.selects RX3 yX3_oneTick yX3_oneTick, Cond.code yX3_oneTick cX3_oneTick 2 none, Cond.fieldLink RX3 96 "GoalLifts$Callers" "count" "I", Cond.fieldLink RX3 97 "GoalLifts$Callers" "phase" "[I", Cond.fieldLink RX3 100 "GoalLifts$Callers" "floor" "[I", Cond.fieldLink RX3 101 "GoalLifts$Callers" "goal" "[I", Cond.methodLink RX3 104 yX3_bestCar, Cond.methodLink RX3 107 yX0_give, Cond.methodLink RX3 111 yX3_stopOrTravel, Cond.instanceMethod yX3_stopOrTravel, Cond.selects RX3 yX3_stopOrTravel yX3_stopOrTravel]
def wsL_law_r16 : List Cond := [Cond.code yX3_stopOrTravel cX3_stopOrTravel 6 none, Cond.fieldLink RX3 118 "GoalLifts$Cars" "places" "[I", Cond.fieldLink RX3 125 "GoalLifts$Cars" "stopsMade" "I", Cond.methodLink RX3 115 yX0_letOut, Cond.instanceMethod yX0_letOut, Cond.selects RX0 yX0_letOut yX0_letOut, Cond.code yX0_letOut cX0_letOut 6 (some .int), Cond.methodLink RX3 121 yX0_takeIn, Cond.instanceMethod yX0_takeIn, Cond.selects RX0 yX0_takeIn yX0_takeIn, Cond.code yX0_takeIn cX0_takeIn 8 (some .int), Cond.methodLink RX3 128 yX0_aimOf, Cond.instanceMethod yX0_aimOf, Cond.selects RX0 yX0_aimOf yX0_aimOf, Cond.code yX0_aimOf cX0_aimOf 6 (some .int), Cond.methodLink RX0 61 yX0_isNearer, Cond.static yX0_isNearer, Cond.code yX0_isNearer cX0_isNearer 5 (some .boolean), Cond.methodLink RX0 65 Lib.Math.abs.name, Cond.methodLink RX3 131 yX1_travelTowards, Cond.instanceMethod yX1_travelTowards, Cond.selects RX1 yX1_travelTowards yX1_travelTowards, Cond.code yX1_travelTowards cX1_travelTowards 3 none, Cond.methodLink RL 43 yX5_pass]
def wsL_law_r17 : List Cond := [Cond.instanceMethod yX5_pass, Cond.selects RX5 yX5_pass yX5_pass, Cond.code yX5_pass cX5_pass 3 (some .int), Cond.methodLink RX5 113 yX5_ticks, Cond.instanceMethod yX5_ticks, Cond.selects RX5 yX5_ticks yX5_ticks, Cond.code yX5_ticks cX5_ticks 3 none, Cond.methodLink RX5 83 yX5_aim, Cond.instanceMethod yX5_aim, Cond.selects RX5 yX5_aim yX5_aim, Cond.code yX5_aim cX5_aim 8 (some .int), Cond.methodLink RX5 86 yX5_isStop, Cond.instanceMethod yX5_isStop, Cond.selects RX5 yX5_isStop yX5_isStop, Cond.code yX5_isStop cX5_isStop 5 (some .boolean), Cond.methodLink RX5 76 yX5_isTaken, Cond.instanceMethod yX5_isTaken, Cond.selects RX5 yX5_isTaken yX5_isTaken, Cond.code yX5_isTaken cX5_isTaken 3 (some .boolean), Cond.methodLink RX5 89 yX5_stopsNow, Cond.instanceMethod yX5_stopsNow, Cond.selects RX5 yX5_stopsNow yX5_stopsNow, Cond.code yX5_stopsNow cX5_stopsNow 3 none, Cond.methodLink RL 44 yX4_undo]
def wsL_law_r18 : List Cond := [Cond.instanceMethod yX4_undo, Cond.selects RX4 yX4_undo yX4_undo, Cond.code yX4_undo cX4_undo 1 (some .int), Cond.fieldLink RX4 98 "GoalLifts$History" "count" "I", Cond.methodLink RX4 99 yX2_restore, Cond.instanceMethod yX2_restore, Cond.selects RX2 yX2_restore yX2_restore, Cond.code yX2_restore cX2_restore 4 none, Cond.methodLink RL 48 yX5_undo, Cond.instanceMethod yX5_undo, Cond.selects RX5 yX5_undo yX5_undo, Cond.code yX5_undo cX5_undo 2 (some .int), Cond.methodLink RL 49 yX4_count, Cond.instanceMethod yX4_count, Cond.selects RX4 yX4_count yX4_count, Cond.code yX4_count cX4_count 2 (some .int), Cond.fieldLink RX4 112 "GoalLifts$Cars" "stopsMade" "I", Cond.methodLink RX4 102 yX3_hour, Cond.methodLink RX4 106 yX0_numberOfGroups, Cond.instanceMethod yX0_numberOfGroups, Cond.selects RX0 yX0_numberOfGroups yX0_numberOfGroups, Cond.code yX0_numberOfGroups cX0_numberOfGroups 3 (some .int), Cond.methodLink RX0 77 yX0_isFirstOfGroup, Cond.instanceMethod yX0_isFirstOfGroup]
def wsL_law_r19 : List Cond := [Cond.selects RX0 yX0_isFirstOfGroup yX0_isFirstOfGroup, Cond.code yX0_isFirstOfGroup cX0_isFirstOfGroup 3 (some .boolean), Cond.methodLink RX0 74 yX0_sameGroup, Cond.instanceMethod yX0_sameGroup, Cond.selects RX0 yX0_sameGroup yX0_sameGroup, Cond.code yX0_sameGroup cX0_sameGroup 3 (some .boolean), Cond.methodLink RX0 71 yX0_isInGroup, Cond.instanceMethod yX0_isInGroup, Cond.selects RX0 yX0_isInGroup yX0_isInGroup, Cond.code yX0_isInGroup cX0_isInGroup 2 (some .boolean), Cond.methodLink RX4 109 yX1_travelledByAll, Cond.instanceMethod yX1_travelledByAll, Cond.selects RX1 yX1_travelledByAll yX1_travelledByAll, Cond.code yX1_travelledByAll cX1_travelledByAll 3 (some .int), Cond.methodLink RX4 115 yX1_numberIn, Cond.instanceMethod yX1_numberIn, Cond.selects RX1 yX1_numberIn yX1_numberIn, Cond.code yX1_numberIn cX1_numberIn 4 (some .int), Cond.methodLink RL 52 yX5_count, Cond.instanceMethod yX5_count, Cond.selects RX5 yX5_count yX5_count, Cond.code yX5_count cX5_count 2 (some .int), Cond.methodLink RX5 125 yX5_groups, Cond.instanceMethod yX5_groups]
def wsL_law_r20 : List Cond := [Cond.selects RX5 yX5_groups yX5_groups, Cond.code yX5_groups cX5_groups 3 (some .int), Cond.methodLink RX5 122 yX5_isFirst, Cond.instanceMethod yX5_isFirst, Cond.selects RX5 yX5_isFirst yX5_isFirst, Cond.code yX5_isFirst cX5_isFirst 4 (some .boolean), Cond.methodLink RX5 116 yX5_isOpen, Cond.instanceMethod yX5_isOpen, Cond.selects RX5 yX5_isOpen yX5_isOpen, Cond.code yX5_isOpen cX5_isOpen 2 (some .boolean), Cond.methodLink RX5 119 yX5_areOne, Cond.instanceMethod yX5_areOne, Cond.selects RX5 yX5_areOne yX5_areOne, Cond.code yX5_areOne cX5_areOne 3 (some .boolean), Cond.methodLink RX5 128 yX5_sumOfCars, Cond.instanceMethod yX5_sumOfCars, Cond.selects RX5 yX5_sumOfCars yX5_sumOfCars, Cond.code yX5_sumOfCars cX5_sumOfCars 5 (some .int), Cond.methodLink RL 53 yX4_car, Cond.instanceMethod yX4_car, Cond.selects RX4 yX4_car yX4_car, Cond.code yX4_car cX4_car 3 (some .int), Cond.fieldLink RX4 130 "GoalLifts$Cars" "travelled" "[I", Cond.methodLink RX4 116 yX0_numberOf]
def wsL_law_r21 : List Cond := [Cond.methodLink RX4 119 yX0_stopsOf, Cond.methodLink RX4 122 yJ6_bitCount_0f7a4, Cond.methodLink RX4 127 yX0_aimOf, Cond.methodLink RX4 133 yX3_isAwake, Cond.methodLink RL 56 yX5_car, Cond.instanceMethod yX5_car, Cond.selects RX5 yX5_car yX5_car, Cond.code yX5_car cX5_car 3 (some .int), Cond.methodLink RL 57 yX4_caller, Cond.instanceMethod yX4_caller, Cond.selects RX4 yX4_caller yX4_caller, Cond.code yX4_caller cX4_caller 3 (some .int), Cond.fieldLink RX4 137 "GoalLifts$Callers" "floor" "[I", Cond.fieldLink RX4 138 "GoalLifts$Callers" "goal" "[I", Cond.fieldLink RX4 141 "GoalLifts$Callers" "phase" "[I", Cond.fieldLink RX4 144 "GoalLifts$Callers" "given" "[I", Cond.fieldLink RX4 147 "GoalLifts$Callers" "calledAt" "[I", Cond.fieldLink RX4 150 "GoalLifts$Callers" "rodeAt" "[I", Cond.fieldLink RX4 153 "GoalLifts$Callers" "thereAt" "[I", Cond.fieldLink RX4 156 "GoalLifts$Callers" "timesGiven" "[I", Cond.methodLink RX4 136 yX0_has, Cond.methodLink RL 60 yX5_caller, Cond.instanceMethod yX5_caller, Cond.selects RX5 yX5_caller yX5_caller]
def wsL_law_r22 : List Cond := [Cond.code yX5_caller cX5_caller 3 (some .int), Cond.methodLink RX5 131 yX5_isCaller, Cond.instanceMethod yX5_isCaller, Cond.selects RX5 yX5_isCaller yX5_isCaller, Cond.code yX5_isCaller cX5_isCaller 2 (some .boolean), Cond.methodLink RL 61 yX4_group, Cond.instanceMethod yX4_group, Cond.selects RX4 yX4_group yX4_group, Cond.code yX4_group cX4_group 4 (some .int), Cond.methodLink RX4 159 yX0_firstOfGroup, Cond.instanceMethod yX0_firstOfGroup, Cond.selects RX0 yX0_firstOfGroup yX0_firstOfGroup, Cond.code yX0_firstOfGroup cX0_firstOfGroup 4 (some .int), Cond.methodLink RX4 162 yX0_sizeOfGroup, Cond.instanceMethod yX0_sizeOfGroup, Cond.selects RX0 yX0_sizeOfGroup yX0_sizeOfGroup, Cond.code yX0_sizeOfGroup cX0_sizeOfGroup 4 (some .int), Cond.methodLink RL 64 yX5_group, Cond.instanceMethod yX5_group, Cond.selects RX5 yX5_group yX5_group, Cond.code yX5_group cX5_group 7 (some .int), Cond.methodLink RL 65 yX4_cost, Cond.instanceMethod yX4_cost, Cond.selects RX4 yX4_cost yX4_cost]
def wsL_law_r23 : List Cond := [Cond.code yX4_cost cX4_cost 4 (some .int), Cond.methodLink RX4 165 yX3_canBeGiven, Cond.methodLink RX4 169 yX3_costOf, Cond.methodLink RL 68 yX5_cost, Cond.instanceMethod yX5_cost, Cond.selects RX5 yX5_cost yX5_cost, Cond.code yX5_cost cX5_cost 4 (some .int), Cond.methodLink RL 69 yX4_would, Cond.instanceMethod yX4_would, Cond.selects RX4 yX4_would yX4_would, Cond.code yX4_would cX4_would 3 (some .int), Cond.methodLink RL 72 yX5_would, Cond.instanceMethod yX5_would, Cond.selects RX5 yX5_would yX5_would, Cond.code yX5_would cX5_would 3 (some .int), Cond.methodLink RL 73 yX4_thereIn, Cond.instanceMethod yX4_thereIn, Cond.selects RX4 yX4_thereIn yX4_thereIn, Cond.code yX4_thereIn cX4_thereIn 3 (some .int), Cond.methodLink RX4 172 yX3_copyFrom, Cond.methodLink RL 76 yX5_thereIn, Cond.instanceMethod yX5_thereIn, Cond.selects RX5 yX5_thereIn yX5_thereIn, Cond.code yX5_thereIn cX5_thereIn 3 (some .int)]
def wsL_law_r24 : List Cond := [Cond.methodLink RX5 134 yX5_copies, Cond.static yX5_copies, Cond.code yX5_copies cX5_copies 3 none, Cond.methodLink RL 77 yX4_waits, Cond.instanceMethod yX4_waits, Cond.selects RX4 yX4_waits yX4_waits, Cond.code yX4_waits cX4_waits 7 (some .int), Cond.methodLink RX4 175 yX0_waitOf, Cond.instanceMethod yX0_waitOf, Cond.selects RX0 yX0_waitOf yX0_waitOf, Cond.code yX0_waitOf cX0_waitOf 4 (some .int), Cond.methodLink RL 80 yX5_waits, Cond.instanceMethod yX5_waits, Cond.selects RX5 yX5_waits yX5_waits, Cond.code yX5_waits cX5_waits 7 (some .int), Cond.methodLink RX5 138 yX5_waited, Cond.instanceMethod yX5_waited, Cond.selects RX5 yX5_waited yX5_waited, Cond.code yX5_waited cX5_waited 2 (some .int), Cond.methodLink RL 81 yX4_worstCar, Cond.instanceMethod yX4_worstCar, Cond.selects RX4 yX4_worstCar yX4_worstCar, Cond.code yX4_worstCar cX4_worstCar 6 (some .int), Cond.methodLink RX4 178 yX4_allThereInWithout]
def wsL_law_r25 : List Cond := [Cond.instanceMethod yX4_allThereInWithout, Cond.selects RX4 yX4_allThereInWithout yX4_allThereInWithout, Cond.code yX4_allThereInWithout cX4_allThereInWithout 3 (some .int), Cond.methodLink RL 84 yX5_worstCar, Cond.instanceMethod yX5_worstCar, Cond.selects RX5 yX5_worstCar yX5_worstCar, Cond.code yX5_worstCar cX5_worstCar 6 (some .int), Cond.methodLink RX5 141 yX5_allThere, Cond.instanceMethod yX5_allThere, Cond.selects RX5 yX5_allThere yX5_allThere, Cond.code yX5_allThere cX5_allThere 2 (some .int)]
def wsL_law : List Cond := (wsL_law_r1 ++ (wsL_law_r2 ++ (wsL_law_r3 ++ (wsL_law_r4 ++ (wsL_law_r5 ++ (wsL_law_r6 ++ (wsL_law_r7 ++ (wsL_law_r8 ++ (wsL_law_r9 ++ (wsL_law_r10 ++ (wsL_law_r11 ++ (wsL_law_r12 ++ (wsL_law_r13 ++ (wsL_law_r14 ++ (wsL_law_r15 ++ (wsL_law_r16 ++ (wsL_law_r17 ++ (wsL_law_r18 ++ (wsL_law_r19 ++ (wsL_law_r20 ++ (wsL_law_r21 ++ (wsL_law_r22 ++ (wsL_law_r23 ++ (wsL_law_r24 ++ wsL_law_r25)))))))))))))))))))))))) ++ wsX40 ++ wsX50 ++ wsX30 ++ wsX20 ++ wsX10 ++ wsX00 ++ ([] : List Cond)
set_option maxRecDepth 20000 in
theorem inlX0 : ∀ w ∈ wsX00, w ∈ wsL_law := fun _ h => List.mem_append_left _ (List.mem_append_right _ h)
theorem inlX1 : ∀ w ∈ wsX10, w ∈ wsL_law := fun _ h => List.mem_append_left _ (List.mem_append_left _ (List.mem_append_right _ h))
theorem inlX2 : ∀ w ∈ wsX20, w ∈ wsL_law := fun _ h => List.mem_append_left _ (List.mem_append_left _ (List.mem_append_left _ (List.mem_append_right _ h)))
theorem inlX3 : ∀ w ∈ wsX30, w ∈ wsL_law := fun _ h => List.mem_append_left _ (List.mem_append_left _ (List.mem_append_left _ (List.mem_append_left _ (List.mem_append_right _ h))))
theorem inlX4 : ∀ w ∈ wsX40, w ∈ wsL_law := fun _ h => List.mem_append_left _ (List.mem_append_left _ (List.mem_append_left _ (List.mem_append_left _ (List.mem_append_left _ (List.mem_append_left _ (List.mem_append_right _ h))))))
theorem inlX5 : ∀ w ∈ wsX50, w ∈ wsL_law := fun _ h => List.mem_append_left _ (List.mem_append_left _ (List.mem_append_left _ (List.mem_append_left _ (List.mem_append_left _ (List.mem_append_right _ h)))))
theorem inJ6 : ∀ w ∈ wsJ60, w ∈ lw_tbl := by decide +kernel
theorem inJ9 : ∀ w ∈ wsJ90, w ∈ lw_tbl := by decide +kernel
theorem inJ10 : ∀ w ∈ wsJ100, w ∈ lw_tbl := by decide +kernel
abbrev vwCl : List vw_C := [(RX0, TX0, 9), (RX1, TX1, 8), (RX2, TX2, 3), (RX3, TX3, 4), (RX4, TX4, 3), (RX5, TX5, 5)]
end
section
/-! ===== the flat memory: a world of cells whose whole contents are one function M of numbers; 'lay' says which number stands where ===== -/
/-- a cell: a row of numbers (how long, which number at each place), an object (its class, its fields: a number or a cell), a row of cells -/
abbrev gl_Ce : Type := (Nat × (Nat → Nat)) ⊕ ((Nat × List (Nat ⊕ Nat)) ⊕ (Nat × (Nat → Nat)))
/-- launch, classes and slots, class of int[], class of House[], addresses -/
abbrev gl_F : Type := Launch × va_G × ClassId × ClassId × (Nat → Nat)
def gl_r (F : gl_F) : Nat → Nat := F.2.2.2.2
def gl_v (F : gl_F) (M : Nat → Int32) : Nat ⊕ Nat → Value
  | .inl i => .int (M i)
  | .inr c => .ref (gl_r F c)
def gl_e (F : gl_F) (M : Nat → Int32) : gl_Ce → va_E
  | .inl (n, f) => .inl (F.2.2.1, n, .inl (fun i => if i < n then M (f i) else 0))
  | .inr (.inl (ci, fs)) => .inr (ci, fs.map (gl_v F M))
  | .inr (.inr (n, g)) => .inl (F.2.2.2.1, n, .inr (.inr (.inr (.inr (fun i => some (gl_r F (g i)))))))
def gl_w (F : gl_F) (lay : List gl_Ce) (M : Nat → Int32) : va_W := lay.mapIdx (fun j c => (gl_r F j, gl_e F M c))
def gl_A (F : gl_F) (lay : List gl_Ce) : Nat → Prop := fun q => ∃ j, j < lay.length ∧ q = gl_r F j
def gl_inj (F : gl_F) (lay : List gl_Ce) : Prop := ∀ i j, i < lay.length → j < lay.length → gl_r F i = gl_r F j → i = j
def gl_tys (F : gl_F) : List (ClassId × FieldType) := [(F.2.2.1, .int), (F.2.2.2.1, .object "GoalLifts$House")]
/-- the number that stands at place k of a cell -/
def gl_at : gl_Ce → Nat → Option Nat
  | .inl (n, f), k => if k < n then some (f k) else none
  | .inr (.inl (_, fs)), k => match fs[k]? with
    | some (.inl i) => some i
    | _ => none
  | .inr (.inr _), _ => none
def gl_sz : gl_Ce → Nat
  | .inl (n, _) => n
  | .inr (.inl (_, fs)) => fs.length
  | .inr (.inr (n, _)) => n
/-- no number stands twice; the rows are of a size that an index reaches -/
def gl_ok (lay : List gl_Ce) : Prop := (∃ ow : Nat → Nat × Nat, ∀ (j : Nat) (c : gl_Ce) (k i : Nat), lay[j]? = some c → gl_at c k = some i → ow i = (j, k)) ∧ ∀ (j : Nat) (c : gl_Ce), lay[j]? = some c → gl_sz c < 2 ^ 31
def gl_chk (ow : Nat → Nat × Nat) (lay : List gl_Ce) : Bool :=
  lay.zipIdx.all (fun q => decide (gl_sz q.1 < 2147483648) && (List.range (gl_sz q.1)).all fun k => match gl_at q.1 k with
    | some i => decide (ow i = (q.2, k))
    | none => true)
theorem gl_at_lt {c : gl_Ce} {k i : Nat} (h : gl_at c k = some i) : k < gl_sz c := by
  obtain ⟨n, f⟩ | ⟨ci, fs⟩ | ⟨n, g⟩ := c
  · simp only [gl_at] at h
    by_cases hk : k < n
    · exact hk
    · rw [if_neg hk] at h; cases h
  · simp only [gl_at] at h
    cases hf : fs[k]? with
    | none => rw [hf] at h; cases h
    | some x => exact (List.getElem?_eq_some_iff.mp hf).1
  · simp [gl_at] at h
theorem gl_ok_of {ow : Nat → Nat × Nat} {lay : List gl_Ce} (h : gl_chk ow lay = true) : gl_ok lay := by
  have hm : ∀ (j : Nat) (c : gl_Ce), lay[j]? = some c → (c, j) ∈ lay.zipIdx := by
    intro j c hj
    exact List.mk_mem_zipIdx_iff_getElem?.mpr hj
  refine ⟨⟨ow, fun j c k i hj hk => ?_⟩, fun j c hj => ?_⟩
  · have h1 := List.all_eq_true.mp h _ (hm j c hj)
    simp only [Bool.and_eq_true] at h1
    have h2 := List.all_eq_true.mp h1.2 k (List.mem_range.mpr (gl_at_lt hk))
    rw [hk] at h2
    simpa using h2
  · have h1 := List.all_eq_true.mp h _ (hm j c hj)
    simp only [Bool.and_eq_true, decide_eq_true_eq] at h1
    exact h1.1
theorem gl_w_at {F : gl_F} {lay : List gl_Ce} {M : Nat → Int32} {j : Nat} {c : gl_Ce} (h : lay[j]? = some c) : (gl_w F lay M)[j]? = some (gl_r F j, gl_e F M c) := by
  unfold gl_w
  rw [List.getElem?_mapIdx, h]
  rfl
theorem gl_w_len {F : gl_F} {lay : List gl_Ce} {M : Nat → Int32} : (gl_w F lay M).length = lay.length := by
  unfold gl_w
  exact List.length_mapIdx
theorem gl_w_inv {F : gl_F} {lay : List gl_Ce} {M : Nat → Int32} {j : Nat} {q : Nat × va_E} (h : (gl_w F lay M)[j]? = some q) : ∃ c, lay[j]? = some c ∧ q = (gl_r F j, gl_e F M c) := by
  unfold gl_w at h
  rw [List.getElem?_mapIdx] at h
  cases hc : lay[j]? with
  | none => rw [hc] at h; cases h
  | some c => rw [hc] at h; exact ⟨c, rfl, (Option.some.inj h).symm⟩
/-- a number that isn't in a cell can change -/
theorem gl_e_upd {F : gl_F} {M M' : Nat → Int32} {c : gl_Ce} (h : ∀ k i, gl_at c k = some i → M' i = M i) : gl_e F M' c = gl_e F M c := by
  obtain ⟨n, f⟩ | ⟨ci, fs⟩ | ⟨n, g⟩ := c
  · have e : (fun i => if i < n then M' (f i) else 0) = (fun i => if i < n then M (f i) else 0) := by
      funext i
      by_cases hi : i < n
      · rw [if_pos hi, if_pos hi]
        exact h i (f i) (by simp only [gl_at]; rw [if_pos hi])
      · rw [if_neg hi, if_neg hi]
    simp only [gl_e, e]
  · have e : fs.map (gl_v F M') = fs.map (gl_v F M) := by
      apply List.ext_getElem?
      intro k
      rw [List.getElem?_map, List.getElem?_map]
      cases hf : fs[k]? with
      | none => rfl
      | some x =>
        cases x with
        | inl i =>
          have := h k i (by simp only [gl_at]; rw [hf])
          simp only [Option.map_some, gl_v, this]
        | inr c => rfl
    simp only [gl_e, e]
  · rfl
theorem gl_upd_ne {M : Nat → Int32} {i j : Nat} {x : Int32} (h : j ≠ i) : upd M i x j = M j := by
  unfold upd
  rw [if_neg h]
theorem gl_upd_eq {M : Nat → Int32} {i : Nat} {x : Int32} : upd M i x i = x := by
  unfold upd
  rw [if_pos rfl]
theorem gl_set_arr {F : gl_F} {lay : List gl_Ce} {M : Nat → Int32} (hok : gl_ok lay) {j n k : Nat} {f : Nat → Nat} (hj : lay[j]? = some (.inl (n, f))) (hk : k < n) (x : Int32) :
    (gl_w F lay M).set j (gl_r F j, .inl (F.2.2.1, n, .inl (upd (fun i => if i < n then M (f i) else 0) k x))) = gl_w F lay (upd M (f k) x) := by
  obtain ⟨⟨ow, how⟩, -⟩ := hok
  have h0 : ow (f k) = (j, k) := how j _ k (f k) hj (by simp only [gl_at]; rw [if_pos hk])
  apply List.ext_getElem?
  intro j'
  by_cases hjj : j' = j
  · subst hjj
    rw [List.getElem?_set_self (by rw [gl_w_len]; exact (List.getElem?_eq_some_iff.mp hj).1), gl_w_at hj]
    have e : upd (fun i => if i < n then M (f i) else 0) k x = (fun i => if i < n then upd M (f k) x (f i) else 0) := by
      funext i
      unfold upd
      by_cases hi : i = k
      · subst hi
        rw [if_pos rfl, if_pos hk, if_pos rfl]
      · rw [if_neg hi]
        by_cases hin : i < n
        · show (if i < n then M (f i) else 0) = _
          rw [if_pos hin, if_pos hin, if_neg]
          intro hf
          have h1 : ow (f i) = (j', i) := how j' _ i (f i) hj (by simp only [gl_at]; rw [if_pos hin])
          rw [hf, h0] at h1
          exact hi (Prod.mk.inj h1).2.symm
        · show (if i < n then M (f i) else 0) = _
          rw [if_neg hin, if_neg hin]
    simp only [gl_e, e]
  · rw [List.getElem?_set_ne (Ne.symm hjj)]
    cases hc : lay[j']? with
    | none =>
      rw [List.getElem?_eq_none (by rw [gl_w_len]; exact List.getElem?_eq_none_iff.mp hc), List.getElem?_eq_none (by rw [gl_w_len]; exact List.getElem?_eq_none_iff.mp hc)]
    | some c =>
      rw [gl_w_at hc, gl_w_at hc]
      rw [gl_e_upd (c := c) (M := M) (M' := upd M (f k) x)]
      intro k' i hi
      apply gl_upd_ne
      intro e
      have h1 := how j' c k' i hc hi
      rw [e, h0] at h1
      exact hjj (Prod.mk.inj h1).1.symm
theorem gl_set_fld {F : gl_F} {lay : List gl_Ce} {M : Nat → Int32} (hok : gl_ok lay) {j ci k i : Nat} {fs : List (Nat ⊕ Nat)} (hj : lay[j]? = some (.inr (.inl (ci, fs)))) (hk : fs[k]? = some (.inl i)) (x : Int32) :
    (gl_w F lay M).set j (gl_r F j, .inr (ci, (fs.map (gl_v F M)).set k (.int x))) = gl_w F lay (upd M i x) := by
  obtain ⟨⟨ow, how⟩, -⟩ := hok
  have h0 : ow i = (j, k) := how j _ k i hj (by simp only [gl_at]; rw [hk])
  apply List.ext_getElem?
  intro j'
  by_cases hjj : j' = j
  · subst hjj
    rw [List.getElem?_set_self (by rw [gl_w_len]; exact (List.getElem?_eq_some_iff.mp hj).1), gl_w_at hj]
    have e : (fs.map (gl_v F M)).set k (.int x) = fs.map (gl_v F (upd M i x)) := by
      apply List.ext_getElem?
      intro k'
      by_cases hkk : k' = k
      · subst hkk
        rw [List.getElem?_set_self (by rw [List.length_map]; exact (List.getElem?_eq_some_iff.mp hk).1), List.getElem?_map, hk]
        simp only [Option.map_some, gl_v, gl_upd_eq]
      · rw [List.getElem?_set_ne (Ne.symm hkk), List.getElem?_map, List.getElem?_map]
        cases hf : fs[k']? with
        | none => rfl
        | some y =>
          cases y with
          | inr c => rfl
          | inl i' =>
            have h1 : ow i' = (j', k') := how j' _ k' i' hj (by simp only [gl_at]; rw [hf])
            have hne : i' ≠ i := by
              intro e
              rw [e, h0] at h1
              exact hkk (Prod.mk.inj h1).2.symm
            simp only [Option.map_some, gl_v, gl_upd_ne hne]
    simp only [gl_e, e]
  · rw [List.getElem?_set_ne (Ne.symm hjj)]
    cases hc : lay[j']? with
    | none =>
      rw [List.getElem?_eq_none (by rw [gl_w_len]; exact List.getElem?_eq_none_iff.mp hc), List.getElem?_eq_none (by rw [gl_w_len]; exact List.getElem?_eq_none_iff.mp hc)]
    | some c =>
      rw [gl_w_at hc, gl_w_at hc]
      rw [gl_e_upd (c := c) (M := M) (M' := upd M i x)]
      intro k' i' hi
      apply gl_upd_ne
      intro e
      have h1 := how j' c k' i' hc hi
      rw [e, h0] at h1
      exact hjj (Prod.mk.inj h1).1.symm
theorem gl_w_D {F : gl_F} {lay : List gl_Ce} {M : Nat → Int32} (h : gl_inj F lay) : va_D (gl_A F lay) (gl_w F lay M) := by
  refine ⟨fun i j p q hi hj hpq => ?_, fun k q hk => ?_⟩
  · obtain ⟨c, h1, rfl⟩ := gl_w_inv hi
    obtain ⟨c', h2, rfl⟩ := gl_w_inv hj
    exact h i j (List.getElem?_eq_some_iff.mp h1).1 (List.getElem?_eq_some_iff.mp h2).1 hpq
  · obtain ⟨c, h1, rfl⟩ := gl_w_inv hk
    exact ⟨k, (List.getElem?_eq_some_iff.mp h1).1, rfl⟩
/-! ===== locals as a list by places ===== -/
def gl_L (nL : Nat) (ls : Array Slot) (L : List (Option Value)) : Prop := ls.size = nL ∧ lv_wf ls ∧ L.length = nL ∧ ∀ (i : Nat) (v : Value), L[i]? = some (some v) → ls[i]? = some (.val v) ∧ v.category = 1
def gl_al (L : List (Option Value)) : List (Nat × Value) := L.zipIdx.filterMap (fun q => q.1.map (fun v => (q.2, v)))
theorem gl_al_mem {L : List (Option Value)} {i : Nat} {v : Value} : (i, v) ∈ gl_al L ↔ L[i]? = some (some v) := by
  unfold gl_al
  rw [List.mem_filterMap]
  constructor
  · rintro ⟨⟨o, j⟩, h1, h2⟩
    have h3 := List.mk_mem_zipIdx_iff_getElem?.mp h1
    cases o with
    | none => cases h2
    | some w =>
      simp only [Option.map_some, Option.some.injEq, Prod.mk.injEq] at h2
      obtain ⟨rfl, rfl⟩ := h2
      exact h3
  · intro h
    exact ⟨(some v, i), List.mk_mem_zipIdx_iff_getElem?.mpr h, rfl⟩
theorem gl_L_has {nL : Nat} {ls : Array Slot} {L : List (Option Value)} (h : gl_L nL ls L) : lv_has ls nL (gl_al L) :=
  ⟨h.1, h.2.1, fun q hq => (h.2.2.2 q.1 q.2 (gl_al_mem.mp hq)).1⟩
theorem gl_L_at {nL : Nat} {ls : Array Slot} {L : List (Option Value)} (h : gl_L nL ls L) {i : Nat} {v : Value} (hi : L[i]? = some (some v)) : ls[i]? = some (.val v) := (h.2.2.2 i v hi).1
theorem gl_L_set {nL : Nat} {ls ls' : Array Slot} {L : List (Option Value)} {i : Nat} {v : Value} (h : gl_L nL ls L) (hc : v.category = 1)
    (h' : lv_has ls' nL ((i, v) :: (gl_al L).filter (fun q => !(q.1 == i) && !(q.1 + 1 == i && q.2.category == 2)))) : gl_L nL ls' (L.set i (some v)) := by
  refine ⟨h'.1, h'.2.1, by rw [List.length_set]; exact h.2.2.1, fun j w hj => ?_⟩
  by_cases hij : j = i
  · subst hij
    have hlt : j < L.length := by
      have := (List.getElem?_eq_some_iff.mp hj).1
      rwa [List.length_set] at this
    rw [List.getElem?_set_self hlt] at hj
    cases hj
    exact ⟨h'.2.2 _ List.mem_cons_self, hc⟩
  · rw [List.getElem?_set_ne (Ne.symm hij)] at hj
    have hw := (h.2.2.2 j w hj).2
    refine ⟨h'.2.2 (j, w) (List.mem_cons_of_mem _ (List.mem_filter.mpr ⟨gl_al_mem.mpr hj, ?_⟩)), hw⟩
    simp [hij, hw]
theorem gl_args_at (av : List Value) (h : ∀ v ∈ av, v.category = 1) : ∀ (b i : Nat) (v : Value), av[i]? = some v → (b + i, v) ∈ lv_args b av := by
  induction av with
  | nil => intro b i v hv; simp at hv
  | cons a as ih =>
    intro b i v hv
    have ha : ¬ a.category = 2 := by rw [h a List.mem_cons_self]; decide
    simp only [lv_args, ha, if_false]
    cases i with
    | zero =>
      simp only [List.getElem?_cons_zero, Option.some.injEq] at hv
      subst hv
      exact List.mem_cons_self
    | succ i =>
      rw [List.getElem?_cons_succ] at hv
      have := ih (fun v hv => h v (List.mem_cons_of_mem _ hv)) (b + 1) i v hv
      rw [show b + 1 + i = b + (i + 1) by omega] at this
      exact List.mem_cons_of_mem _ this
theorem gl_sl_len (av : List Value) (h : ∀ v ∈ av, v.category = 1) : (lg_sl av).length = av.length := by
  induction av with
  | nil => rfl
  | cons a as ih =>
    have ha : ¬ a.category = 2 := by rw [h a List.mem_cons_self]; decide
    have hi := ih (fun v hv => h v (List.mem_cons_of_mem _ hv))
    unfold lg_sl at hi ⊢
    simp [ha, hi]
/-! ===== the judgement: the machine at pc, locals L, stack st, memory M, comes to the method's end with answer ov and memory M' ===== -/
abbrev gl_V : Type := gl_F × Program × Env × Room × State × MethodId × Array Value × List Frame × Method × Code × Nat
def gl_Q (F : gl_F) (lay : List gl_Ce) (ov : Option Value) (M' : Nat → Int32) : Array Value → State → Outcome → State → Prop := fun _ st o t => o = .returned ov ∧ va_P F.2.1 vwCl (gl_w F lay M') t.heap ∧ va_F (gl_A F lay) st t
def gl_Pc (F : gl_F) (lay : List gl_Ce) (av : List Value) (M : Nat → Int32) : Array Value → State → Prop := va_Pc av (fun U => va_P F.2.1 vwCl (gl_w F lay M) U.heap ∧ va_K F.2.1 vwCl (gl_tys F) U ∧ gl_inj F lay)
/-- A CONTRACT: method y, called with av over memory M, answers ov and leaves M' -/
def gl_Ct (F : gl_F) (lay : List gl_Ce) (y : MethodName) (ws : List Cond) (rm : Room) (av : List Value) (M : Nat → Int32) (ov : Option Value) (M' : Nat → Int32) : Prop := Met F.1 y ws rm (gl_Pc F lay av M) (gl_Q F lay ov M') 0 0 (gl_A F lay)
def gl_C (cc : ByteArray) (ws : List Cond) (own : String) (rm : Room) (ret : Option FieldType) (lay : List gl_Ce) : gl_V → Prop
  | (F, p, e, R, s, m, args, below, meth, c, nL) => p.tables.exec = Jvm.exec ∧ c.code = cc ∧ c.maxLocals = nL ∧ s.vm.findClass own = some m.cls ∧ (∀ w ∈ ws, w.before args s = true) ∧ va_K F.2.1 vwCl (gl_tys F) s ∧ gl_inj F lay ∧ gl_ok lay ∧ meth.locks = false ∧ meth.sig.returnType = ret ∧ R = rm
def gl_G (lay : List gl_Ce) (ov : Option Value) (M' : Nat → Int32) : gl_V → Nat → List (Option Value) → List Value → (Nat → Int32) → Prop
  | (F, p, e, R, s, m, args, below, meth, c, nL), pc, L, st, M => ∀ (H : Heap) (locs : List Loc) (ls : Array Slot), va_P F.2.1 vwCl (gl_w F lay M) H → va_S (gl_A F lay) s.heap H locs → gl_L nL ls L → W p F.1 e R s m args below meth c H locs 0 0 (MQ below (gl_Q F lay ov M') args s 0 0 (gl_A F lay)) (F0 m pc ls st)
set_option maxHeartbeats 1000000 in
theorem gl_met {F : gl_F} {lay : List gl_Ce} {y : MethodName} {ws ws' : List Cond} {cc : ByteArray} {maxL : Nat} {ret : Option FieldType} {rm : Room} {av : List Value} {M M' : Nat → Int32} {ov : Option Value} (L0 : List (Option Value))
    (hy : plainName y.cls = true) (hw : ws = Cond.code y cc maxL ret :: ws') (hok : gl_ok lay) (hav : ∀ v ∈ av, v.category = 1) (hlen : av.length ≤ maxL) (hL0 : av.map some ++ List.replicate (maxL - av.length) none = L0)
    (body : ∀ V : gl_V, V.1 = F → gl_C cc ws y.cls rm ret lay V → gl_G lay ov M' V 0 L0 [] M) : gl_Ct F lay y ws rm av M ov M' := by
  refine Met.ofW (cc := cc) (maxL := maxL) (ret := ret) hy hw ?_
  intro p e s m args below meth c s₁ B hml hv
  obtain ⟨rfl, hP, hK, hI⟩ := hv
  have hts := atoms_spec (ws := ws) B.pre
  have hown : s.vm.findClass y.cls = some m.cls := findClass_of_methodNamed B.named
  have hl := lv_entry av (n := maxL) (by rw [gl_sl_len av hav]; exact hlen)
  rw [lg_entry_eq]
  generalize (lg_sl av ++ List.replicate (maxL - (lg_sl av).length) Slot.unset).toArray = ls at hl ⊢
  have hL : gl_L maxL ls L0 := by
    refine ⟨hl.1, hl.2.1, ?_, fun i v hi => ?_⟩
    · rw [← hL0]; simp; omega
    · rw [← hL0] at hi
      by_cases h : i < av.length
      · rw [List.getElem?_append_left (by simpa using h), List.getElem?_map] at hi
        cases hx : av[i]? with
        | none => rw [hx] at hi; cases hi
        | some w =>
          rw [hx] at hi
          simp only [Option.map_some, Option.some.injEq] at hi
          subst hi
          have := gl_args_at av hav 0 i w hx
          rw [Nat.zero_add] at this
          exact ⟨hl.2.2 _ this, hav _ (List.mem_of_getElem? hx)⟩
      · rw [List.getElem?_append_right (by simpa using h)] at hi
        have := List.eq_of_mem_replicate (List.mem_of_getElem? hi)
        cases this
  exact body (F, p, e, rm, s, m, av.toArray, below, meth, c, maxL) rfl ⟨B.exec, B.bytes, hml, hown, hts, hK, hI, hok, B.notSynchronized, B.returns, rfl⟩ s.heap [] ls hP va_S.rf hL
def gl_le : List (Option Value) → List (Option Value) → Prop
  | [], [] => True
  | none :: a, _ :: b => gl_le a b
  | some v :: a, some w :: b => w = v ∧ gl_le a b
  | _, _ => False
theorem gl_le_len : ∀ {a b : List (Option Value)}, gl_le a b → a.length = b.length
  | [], [], _ => rfl
  | none :: a, _ :: b, h => by
    simp only [gl_le] at h
    simp [gl_le_len h]
  | some v :: a, some w :: b, h => by
    simp only [gl_le] at h
    simp [gl_le_len h.2]
  | [], _ :: _, h => by simp [gl_le] at h
  | none :: _, [], h => by simp [gl_le] at h
  | some _ :: _, [], h => by simp [gl_le] at h
  | some _ :: _, none :: _, h => by simp [gl_le] at h
theorem gl_le_at : ∀ {a b : List (Option Value)}, gl_le a b → ∀ (i : Nat) (v : Value), a[i]? = some (some v) → b[i]? = some (some v)
  | [], [], _, i, v, hi => by simp at hi
  | none :: a, x :: b, h, i, v, hi => by
    simp only [gl_le] at h
    cases i with
    | zero => simp at hi
    | succ i =>
      rw [List.getElem?_cons_succ] at hi ⊢
      exact gl_le_at h i v hi
  | some u :: a, some w :: b, h, i, v, hi => by
    simp only [gl_le] at h
    cases i with
    | zero =>
      rw [List.getElem?_cons_zero] at hi ⊢
      rw [h.1]
      exact hi
    | succ i =>
      rw [List.getElem?_cons_succ] at hi ⊢
      exact gl_le_at h.2 i v hi
  | [], _ :: _, h, _, _, _ => by simp [gl_le] at h
  | none :: _, [], h, _, _, _ => by simp [gl_le] at h
  | some _ :: _, [], h, _, _, _ => by simp [gl_le] at h
  | some _ :: _, none :: _, h, _, _, _ => by simp [gl_le] at h
section GLR
variable {cc : ByteArray} {ws : List Cond} {own : String} {rm : Room} {ret : Option FieldType} {lay : List gl_Ce} {ov : Option Value} {M M' M1 : Nat → Int32} {V : gl_V} {pc : Nat} {L L1 : List (Option Value)} {st rest : List Value}
/-- on at a place whose state is known to go on: what is asked there must be what stands -/
theorem gl_on (h : gl_G lay ov M' V pc L1 st M1) (hL : gl_le L1 L) (hM : M = M1) : gl_G lay ov M' V pc L st M := by
  obtain ⟨F, p, e, R, s, m, args, below, meth, c, nL⟩ := V
  subst hM
  intro H locs ls hP hS hl
  exact h H locs ls hP hS ⟨hl.1, hl.2.1, (gl_le_len hL).trans hl.2.2.1, fun i v hi => hl.2.2.2 i v (gl_le_at hL i v hi)⟩
theorem gl_mem (hM : M = M1) (h : gl_G lay ov M' V pc L st M1) : gl_G lay ov M' V pc L st M := by rw [hM]; exact h
theorem gl_top {x y : Int32} (hx : x = y) (h : gl_G lay ov M' V pc L (.int y :: st) M) : gl_G lay ov M' V pc L (.int x :: st) M := by rw [hx]; exact h
theorem gl_iconst {n : Int} (v : Int32) (C : gl_C cc ws own rm ret lay V) (d : decode cc pc = .ok (.iconst n, 1)) (hv : Int32.ofInt n = v) (k : gl_G lay ov M' V (pc + 1) L (.int v :: st) M) : gl_G lay ov M' V pc L st M := by
  obtain ⟨F, p, e, R, s, m, args, below, meth, c, nL⟩ := V
  obtain ⟨hx, hb, hml, hown, hts, hK, hI, hok, hlk, hr, rfl⟩ := C
  intro H locs ls hP hS hl
  exact lv_iconst hx hb d hv (k H locs ls hP hS hl)
theorem gl_bipush {n : Int} (v : Int32) (C : gl_C cc ws own rm ret lay V) (d : decode cc pc = .ok (.bipush n, 2)) (hv : (Int8.ofInt n).toInt32 = v) (k : gl_G lay ov M' V (pc + 2) L (.int v :: st) M) : gl_G lay ov M' V pc L st M := by
  obtain ⟨F, p, e, R, s, m, args, below, meth, c, nL⟩ := V
  obtain ⟨hx, hb, hml, hown, hts, hK, hI, hok, hlk, hr, rfl⟩ := C
  intro H locs ls hP hS hl
  exact lv_bipush hx hb d hv (k H locs ls hP hS hl)
theorem gl_sipush {n : Int} (v : Int32) (C : gl_C cc ws own rm ret lay V) (d : decode cc pc = .ok (.sipush n, 3)) (hv : (Int16.ofInt n).toInt32 = v) (k : gl_G lay ov M' V (pc + 3) L (.int v :: st) M) : gl_G lay ov M' V pc L st M := by
  obtain ⟨F, p, e, R, s, m, args, below, meth, c, nL⟩ := V
  obtain ⟨hx, hb, hml, hown, hts, hK, hI, hok, hlk, hr, rfl⟩ := C
  intro H locs ls hP hS hl
  exact lv_sipush hx hb d hv (k H locs ls hP hS hl)
theorem gl_ldc {index : Nat} (v : Int32) (C : gl_C cc ws own rm ret lay V) (d : decode cc pc = .ok (.ldc index, 2)) (hv : Cond.constant own index v ∈ ws) (k : gl_G lay ov M' V (pc + 2) L (.int v :: st) M) : gl_G lay ov M' V pc L st M := by
  obtain ⟨F, p, e, R, s, m, args, below, meth, c, nL⟩ := V
  obtain ⟨hx, hb, hml, hown, hts, hK, hI, hok, hlk, hr, rfl⟩ := C
  intro H locs ls hP hS hl
  exact lv_ldc hx hb hown (hts _ hv) d (k H locs ls hP hS hl)
theorem gl_ldcw {index : Nat} (v : Int32) (C : gl_C cc ws own rm ret lay V) (d : decode cc pc = .ok (.ldc_w index, 3)) (hv : Cond.constant own index v ∈ ws) (k : gl_G lay ov M' V (pc + 3) L (.int v :: st) M) : gl_G lay ov M' V pc L st M := by
  obtain ⟨F, p, e, R, s, m, args, below, meth, c, nL⟩ := V
  obtain ⟨hx, hb, hml, hown, hts, hK, hI, hok, hlk, hr, rfl⟩ := C
  intro H locs ls hP hS hl
  exact lv_ldcw hx hb hown (hts _ hv) d (k H locs ls hP hS hl)
theorem gl_iadd {x y : Int32} (C : gl_C cc ws own rm ret lay V) (d : decode cc pc = .ok (.iadd, 1)) (k : gl_G lay ov M' V (pc + 1) L (.int (x + y) :: st) M) : gl_G lay ov M' V pc L (.int y :: .int x :: st) M := by
  obtain ⟨F, p, e, R, s, m, args, below, meth, c, nL⟩ := V
  obtain ⟨hx, hb, hml, hown, hts, hK, hI, hok, hlk, hr, rfl⟩ := C
  intro H locs ls hP hS hl
  exact lv_iadd hx hb d (k H locs ls hP hS hl)
theorem gl_isub {x y : Int32} (C : gl_C cc ws own rm ret lay V) (d : decode cc pc = .ok (.isub, 1)) (k : gl_G lay ov M' V (pc + 1) L (.int (x - y) :: st) M) : gl_G lay ov M' V pc L (.int y :: .int x :: st) M := by
  obtain ⟨F, p, e, R, s, m, args, below, meth, c, nL⟩ := V
  obtain ⟨hx, hb, hml, hown, hts, hK, hI, hok, hlk, hr, rfl⟩ := C
  intro H locs ls hP hS hl
  exact lv_isub hx hb d (k H locs ls hP hS hl)
theorem gl_imul {x y : Int32} (C : gl_C cc ws own rm ret lay V) (d : decode cc pc = .ok (.imul, 1)) (k : gl_G lay ov M' V (pc + 1) L (.int (x * y) :: st) M) : gl_G lay ov M' V pc L (.int y :: .int x :: st) M := by
  obtain ⟨F, p, e, R, s, m, args, below, meth, c, nL⟩ := V
  obtain ⟨hx, hb, hml, hown, hts, hK, hI, hok, hlk, hr, rfl⟩ := C
  intro H locs ls hP hS hl
  exact lv_imul hx hb d (k H locs ls hP hS hl)
theorem gl_iand {x y : Int32} (C : gl_C cc ws own rm ret lay V) (d : decode cc pc = .ok (.iand, 1)) (k : gl_G lay ov M' V (pc + 1) L (.int (x &&& y) :: st) M) : gl_G lay ov M' V pc L (.int y :: .int x :: st) M := by
  obtain ⟨F, p, e, R, s, m, args, below, meth, c, nL⟩ := V
  obtain ⟨hx, hb, hml, hown, hts, hK, hI, hok, hlk, hr, rfl⟩ := C
  intro H locs ls hP hS hl
  exact lv_iand hx hb d (k H locs ls hP hS hl)
theorem gl_ior {x y : Int32} (C : gl_C cc ws own rm ret lay V) (d : decode cc pc = .ok (.ior, 1)) (k : gl_G lay ov M' V (pc + 1) L (.int (x ||| y) :: st) M) : gl_G lay ov M' V pc L (.int y :: .int x :: st) M := by
  obtain ⟨F, p, e, R, s, m, args, below, meth, c, nL⟩ := V
  obtain ⟨hx, hb, hml, hown, hts, hK, hI, hok, hlk, hr, rfl⟩ := C
  intro H locs ls hP hS hl
  exact lv_ior hx hb d (k H locs ls hP hS hl)
theorem gl_ixor {x y : Int32} (C : gl_C cc ws own rm ret lay V) (d : decode cc pc = .ok (.ixor, 1)) (k : gl_G lay ov M' V (pc + 1) L (.int (x ^^^ y) :: st) M) : gl_G lay ov M' V pc L (.int y :: .int x :: st) M := by
  obtain ⟨F, p, e, R, s, m, args, below, meth, c, nL⟩ := V
  obtain ⟨hx, hb, hml, hown, hts, hK, hI, hok, hlk, hr, rfl⟩ := C
  intro H locs ls hP hS hl
  exact lv_ixor hx hb d (k H locs ls hP hS hl)
theorem gl_ishl {x y : Int32} (C : gl_C cc ws own rm ret lay V) (d : decode cc pc = .ok (.ishl, 1)) (k : gl_G lay ov M' V (pc + 1) L (.int (x <<< (y &&& 31)) :: st) M) : gl_G lay ov M' V pc L (.int y :: .int x :: st) M := by
  obtain ⟨F, p, e, R, s, m, args, below, meth, c, nL⟩ := V
  obtain ⟨hx, hb, hml, hown, hts, hK, hI, hok, hlk, hr, rfl⟩ := C
  intro H locs ls hP hS hl
  exact lv_ishl hx hb d (k H locs ls hP hS hl)
theorem gl_ishr {x y : Int32} (C : gl_C cc ws own rm ret lay V) (d : decode cc pc = .ok (.ishr, 1)) (k : gl_G lay ov M' V (pc + 1) L (.int (x >>> (y &&& 31)) :: st) M) : gl_G lay ov M' V pc L (.int y :: .int x :: st) M := by
  obtain ⟨F, p, e, R, s, m, args, below, meth, c, nL⟩ := V
  obtain ⟨hx, hb, hml, hown, hts, hK, hI, hok, hlk, hr, rfl⟩ := C
  intro H locs ls hP hS hl
  exact lv_ishr hx hb d (k H locs ls hP hS hl)
theorem gl_idiv {x y : Int32} (C : gl_C cc ws own rm ret lay V) (d : decode cc pc = .ok (.idiv, 1)) (hne : ¬ y = 0) (k : gl_G lay ov M' V (pc + 1) L (.int (x / y) :: st) M) : gl_G lay ov M' V pc L (.int y :: .int x :: st) M := by
  obtain ⟨F, p, e, R, s, m, args, below, meth, c, nL⟩ := V
  obtain ⟨hx, hb, hml, hown, hts, hK, hI, hok, hlk, hr, rfl⟩ := C
  intro H locs ls hP hS hl
  exact lv_idiv hx hb d hne (k H locs ls hP hS hl)
theorem gl_irem {x y : Int32} (C : gl_C cc ws own rm ret lay V) (d : decode cc pc = .ok (.irem, 1)) (hne : ¬ y = 0) (k : gl_G lay ov M' V (pc + 1) L (.int (x - x / y * y) :: st) M) : gl_G lay ov M' V pc L (.int y :: .int x :: st) M := by
  obtain ⟨F, p, e, R, s, m, args, below, meth, c, nL⟩ := V
  obtain ⟨hx, hb, hml, hown, hts, hK, hI, hok, hlk, hr, rfl⟩ := C
  intro H locs ls hP hS hl
  exact lv_irem hx hb d hne (k H locs ls hP hS hl)
theorem gl_iushr {x y : Int32} (C : gl_C cc ws own rm ret lay V) (d : decode cc pc = .ok (.iushr, 1)) (k : gl_G lay ov M' V (pc + 1) L (.int (x.toUInt32 >>> (y.toUInt32 &&& Int32.toUInt32 31)).toInt32 :: st) M) : gl_G lay ov M' V pc L (.int y :: .int x :: st) M := by
  obtain ⟨F, p, e, R, s, m, args, below, meth, c, nL⟩ := V
  obtain ⟨hx, hb, hml, hown, hts, hK, hI, hok, hlk, hr, rfl⟩ := C
  intro H locs ls hP hS hl
  exact lv_iushr hx hb d rfl (k H locs ls hP hS hl)
theorem gl_ineg {x : Int32} (C : gl_C cc ws own rm ret lay V) (d : decode cc pc = .ok (.ineg, 1)) (k : gl_G lay ov M' V (pc + 1) L (.int (-x) :: st) M) : gl_G lay ov M' V pc L (.int x :: st) M := by
  obtain ⟨F, p, e, R, s, m, args, below, meth, c, nL⟩ := V
  obtain ⟨hx, hb, hml, hown, hts, hK, hI, hok, hlk, hr, rfl⟩ := C
  intro H locs ls hP hS hl
  exact lv_ineg hx hb d (k H locs ls hP hS hl)
theorem gl_dupI {x : Int32} (C : gl_C cc ws own rm ret lay V) (d : decode cc pc = .ok (.dup, 1)) (k : gl_G lay ov M' V (pc + 1) L (.int x :: .int x :: st) M) : gl_G lay ov M' V pc L (.int x :: st) M := by
  obtain ⟨F, p, e, R, s, m, args, below, meth, c, nL⟩ := V
  obtain ⟨hx, hb, hml, hown, hts, hK, hI, hok, hlk, hr, rfl⟩ := C
  intro H locs ls hP hS hl
  exact lv_dup hx hb d rfl (k H locs ls hP hS hl)
theorem gl_dupR {q : Nat} (C : gl_C cc ws own rm ret lay V) (d : decode cc pc = .ok (.dup, 1)) (k : gl_G lay ov M' V (pc + 1) L (.ref q :: .ref q :: st) M) : gl_G lay ov M' V pc L (.ref q :: st) M := by
  obtain ⟨F, p, e, R, s, m, args, below, meth, c, nL⟩ := V
  obtain ⟨hx, hb, hml, hown, hts, hK, hI, hok, hlk, hr, rfl⟩ := C
  intro H locs ls hP hS hl
  exact lv_dup hx hb d rfl (k H locs ls hP hS hl)
theorem gl_dup2 {x : Int32} {q : Nat} (C : gl_C cc ws own rm ret lay V) (d : decode cc pc = .ok (.dup2, 1)) (k : gl_G lay ov M' V (pc + 1) L (.int x :: .ref q :: .int x :: .ref q :: st) M) : gl_G lay ov M' V pc L (.int x :: .ref q :: st) M := by
  obtain ⟨F, p, e, R, s, m, args, below, meth, c, nL⟩ := V
  obtain ⟨hx, hb, hml, hown, hts, hK, hI, hok, hlk, hr, rfl⟩ := C
  intro H locs ls hP hS hl
  exact lv_dup2_11 hx hb d rfl rfl (k H locs ls hP hS hl)
theorem gl_goto {off : Int} (tgt : Nat) (C : gl_C cc ws own rm ret lay V) (d : decode cc pc = .ok (.goto off, 3)) (ht : (pc : Int) + off = (tgt : Int)) (k : gl_G lay ov M' V tgt L st M) : gl_G lay ov M' V pc L st M := by
  obtain ⟨F, p, e, R, s, m, args, below, meth, c, nL⟩ := V
  obtain ⟨hx, hb, hml, hown, hts, hK, hI, hok, hlk, hr, rfl⟩ := C
  intro H locs ls hP hS hl
  exact lv_goto hx hb d ht (k H locs ls hP hS hl)
theorem gl_icmp_eq {x y : Int32} {off : Int} (tgt : Nat) (C : gl_C cc ws own rm ret lay V) (d : decode cc pc = .ok (.if_icmp .eq off, 3)) (ht : (pc : Int) + off = (tgt : Int)) (kt : x = y → gl_G lay ov M' V tgt L st M) (kf : ¬ x = y → gl_G lay ov M' V (pc + 3) L st M) : gl_G lay ov M' V pc L (.int y :: .int x :: st) M := by
  obtain ⟨F, p, e, R, s, m, args, below, meth, c, nL⟩ := V
  obtain ⟨hx, hb, hml, hown, hts, hK, hI, hok, hlk, hr, rfl⟩ := C
  intro H locs ls hP hS hl
  exact lv_icmp_eq hx hb d ht (fun q => kt q H locs ls hP hS hl) (fun q => kf q H locs ls hP hS hl)
theorem gl_icmp_ne {x y : Int32} {off : Int} (tgt : Nat) (C : gl_C cc ws own rm ret lay V) (d : decode cc pc = .ok (.if_icmp .ne off, 3)) (ht : (pc : Int) + off = (tgt : Int)) (kt : ¬ x = y → gl_G lay ov M' V tgt L st M) (kf : x = y → gl_G lay ov M' V (pc + 3) L st M) : gl_G lay ov M' V pc L (.int y :: .int x :: st) M := by
  obtain ⟨F, p, e, R, s, m, args, below, meth, c, nL⟩ := V
  obtain ⟨hx, hb, hml, hown, hts, hK, hI, hok, hlk, hr, rfl⟩ := C
  intro H locs ls hP hS hl
  exact lv_icmp_ne hx hb d ht (fun q => kt q H locs ls hP hS hl) (fun q => kf q H locs ls hP hS hl)
theorem gl_icmp_lt {x y : Int32} {off : Int} (tgt : Nat) (C : gl_C cc ws own rm ret lay V) (d : decode cc pc = .ok (.if_icmp .lt off, 3)) (ht : (pc : Int) + off = (tgt : Int)) (kt : x < y → gl_G lay ov M' V tgt L st M) (kf : ¬ x < y → gl_G lay ov M' V (pc + 3) L st M) : gl_G lay ov M' V pc L (.int y :: .int x :: st) M := by
  obtain ⟨F, p, e, R, s, m, args, below, meth, c, nL⟩ := V
  obtain ⟨hx, hb, hml, hown, hts, hK, hI, hok, hlk, hr, rfl⟩ := C
  intro H locs ls hP hS hl
  exact lv_icmp_lt hx hb d ht (fun q => kt q H locs ls hP hS hl) (fun q => kf q H locs ls hP hS hl)
theorem gl_icmp_ge {x y : Int32} {off : Int} (tgt : Nat) (C : gl_C cc ws own rm ret lay V) (d : decode cc pc = .ok (.if_icmp .ge off, 3)) (ht : (pc : Int) + off = (tgt : Int)) (kt : y ≤ x → gl_G lay ov M' V tgt L st M) (kf : ¬ y ≤ x → gl_G lay ov M' V (pc + 3) L st M) : gl_G lay ov M' V pc L (.int y :: .int x :: st) M := by
  obtain ⟨F, p, e, R, s, m, args, below, meth, c, nL⟩ := V
  obtain ⟨hx, hb, hml, hown, hts, hK, hI, hok, hlk, hr, rfl⟩ := C
  intro H locs ls hP hS hl
  exact lv_icmp_ge hx hb d ht (fun q => kt q H locs ls hP hS hl) (fun q => kf q H locs ls hP hS hl)
theorem gl_icmp_gt {x y : Int32} {off : Int} (tgt : Nat) (C : gl_C cc ws own rm ret lay V) (d : decode cc pc = .ok (.if_icmp .gt off, 3)) (ht : (pc : Int) + off = (tgt : Int)) (kt : y < x → gl_G lay ov M' V tgt L st M) (kf : ¬ y < x → gl_G lay ov M' V (pc + 3) L st M) : gl_G lay ov M' V pc L (.int y :: .int x :: st) M := by
  obtain ⟨F, p, e, R, s, m, args, below, meth, c, nL⟩ := V
  obtain ⟨hx, hb, hml, hown, hts, hK, hI, hok, hlk, hr, rfl⟩ := C
  intro H locs ls hP hS hl
  exact lv_icmp_gt hx hb d ht (fun q => kt q H locs ls hP hS hl) (fun q => kf q H locs ls hP hS hl)
theorem gl_icmp_le {x y : Int32} {off : Int} (tgt : Nat) (C : gl_C cc ws own rm ret lay V) (d : decode cc pc = .ok (.if_icmp .le off, 3)) (ht : (pc : Int) + off = (tgt : Int)) (kt : x ≤ y → gl_G lay ov M' V tgt L st M) (kf : ¬ x ≤ y → gl_G lay ov M' V (pc + 3) L st M) : gl_G lay ov M' V pc L (.int y :: .int x :: st) M := by
  obtain ⟨F, p, e, R, s, m, args, below, meth, c, nL⟩ := V
  obtain ⟨hx, hb, hml, hown, hts, hK, hI, hok, hlk, hr, rfl⟩ := C
  intro H locs ls hP hS hl
  exact lv_icmp_le hx hb d ht (fun q => kt q H locs ls hP hS hl) (fun q => kf q H locs ls hP hS hl)
theorem gl_ifeq {x : Int32} {off : Int} (tgt : Nat) (C : gl_C cc ws own rm ret lay V) (d : decode cc pc = .ok (.ifCond .eq off, 3)) (ht : (pc : Int) + off = (tgt : Int)) (kt : x = 0 → gl_G lay ov M' V tgt L st M) (kf : ¬ x = 0 → gl_G lay ov M' V (pc + 3) L st M) : gl_G lay ov M' V pc L (.int x :: st) M := by
  obtain ⟨F, p, e, R, s, m, args, below, meth, c, nL⟩ := V
  obtain ⟨hx, hb, hml, hown, hts, hK, hI, hok, hlk, hr, rfl⟩ := C
  intro H locs ls hP hS hl
  exact lv_if_eq hx hb d ht (fun q => kt q H locs ls hP hS hl) (fun q => kf q H locs ls hP hS hl)
theorem gl_ifne {x : Int32} {off : Int} (tgt : Nat) (C : gl_C cc ws own rm ret lay V) (d : decode cc pc = .ok (.ifCond .ne off, 3)) (ht : (pc : Int) + off = (tgt : Int)) (kt : ¬ x = 0 → gl_G lay ov M' V tgt L st M) (kf : x = 0 → gl_G lay ov M' V (pc + 3) L st M) : gl_G lay ov M' V pc L (.int x :: st) M := by
  obtain ⟨F, p, e, R, s, m, args, below, meth, c, nL⟩ := V
  obtain ⟨hx, hb, hml, hown, hts, hK, hI, hok, hlk, hr, rfl⟩ := C
  intro H locs ls hP hS hl
  exact lv_if_ne hx hb d ht (fun q => kt q H locs ls hP hS hl) (fun q => kf q H locs ls hP hS hl)
theorem gl_iflt {x : Int32} {off : Int} (tgt : Nat) (C : gl_C cc ws own rm ret lay V) (d : decode cc pc = .ok (.ifCond .lt off, 3)) (ht : (pc : Int) + off = (tgt : Int)) (kt : x < 0 → gl_G lay ov M' V tgt L st M) (kf : ¬ x < 0 → gl_G lay ov M' V (pc + 3) L st M) : gl_G lay ov M' V pc L (.int x :: st) M := by
  obtain ⟨F, p, e, R, s, m, args, below, meth, c, nL⟩ := V
  obtain ⟨hx, hb, hml, hown, hts, hK, hI, hok, hlk, hr, rfl⟩ := C
  intro H locs ls hP hS hl
  exact lv_if_lt hx hb d ht (fun q => kt q H locs ls hP hS hl) (fun q => kf q H locs ls hP hS hl)
theorem gl_ifge {x : Int32} {off : Int} (tgt : Nat) (C : gl_C cc ws own rm ret lay V) (d : decode cc pc = .ok (.ifCond .ge off, 3)) (ht : (pc : Int) + off = (tgt : Int)) (kt : 0 ≤ x → gl_G lay ov M' V tgt L st M) (kf : ¬ 0 ≤ x → gl_G lay ov M' V (pc + 3) L st M) : gl_G lay ov M' V pc L (.int x :: st) M := by
  obtain ⟨F, p, e, R, s, m, args, below, meth, c, nL⟩ := V
  obtain ⟨hx, hb, hml, hown, hts, hK, hI, hok, hlk, hr, rfl⟩ := C
  intro H locs ls hP hS hl
  exact lv_if_ge hx hb d ht (fun q => kt q H locs ls hP hS hl) (fun q => kf q H locs ls hP hS hl)
theorem gl_ifgt {x : Int32} {off : Int} (tgt : Nat) (C : gl_C cc ws own rm ret lay V) (d : decode cc pc = .ok (.ifCond .gt off, 3)) (ht : (pc : Int) + off = (tgt : Int)) (kt : 0 < x → gl_G lay ov M' V tgt L st M) (kf : ¬ 0 < x → gl_G lay ov M' V (pc + 3) L st M) : gl_G lay ov M' V pc L (.int x :: st) M := by
  obtain ⟨F, p, e, R, s, m, args, below, meth, c, nL⟩ := V
  obtain ⟨hx, hb, hml, hown, hts, hK, hI, hok, hlk, hr, rfl⟩ := C
  intro H locs ls hP hS hl
  exact lv_if_gt hx hb d ht (fun q => kt q H locs ls hP hS hl) (fun q => kf q H locs ls hP hS hl)
theorem gl_ifle {x : Int32} {off : Int} (tgt : Nat) (C : gl_C cc ws own rm ret lay V) (d : decode cc pc = .ok (.ifCond .le off, 3)) (ht : (pc : Int) + off = (tgt : Int)) (kt : x ≤ 0 → gl_G lay ov M' V tgt L st M) (kf : ¬ x ≤ 0 → gl_G lay ov M' V (pc + 3) L st M) : gl_G lay ov M' V pc L (.int x :: st) M := by
  obtain ⟨F, p, e, R, s, m, args, below, meth, c, nL⟩ := V
  obtain ⟨hx, hb, hml, hown, hts, hK, hI, hok, hlk, hr, rfl⟩ := C
  intro H locs ls hP hS hl
  exact lv_if_le hx hb d ht (fun q => kt q H locs ls hP hS hl) (fun q => kf q H locs ls hP hS hl)
theorem gl_iload_0 {T : List (Option Value)} {x : Int32} (C : gl_C cc ws own rm ret lay V) (d : decode cc pc = .ok (.iload_n 0, 1)) (k : gl_G lay ov M' V (pc + 1) (some (.int x) :: T) (.int x :: st) M) : gl_G lay ov M' V pc (some (.int x) :: T) st M := by
  obtain ⟨F, p, e, R, s, m, args, below, meth, c, nL⟩ := V
  obtain ⟨hx, hb, hml, hown, hts, hK, hI, hok, hlk, hr, rfl⟩ := C
  intro H locs ls hP hS hl
  exact lv_iload_n hx hb d rfl (gl_L_at hl (i := 0) rfl) (k H locs ls hP hS hl)
theorem gl_istore_0 {o : Option Value} {T : List (Option Value)} {x : Int32} (C : gl_C cc ws own rm ret lay V) (d : decode cc pc = .ok (.istore_n 0, 1)) (k : gl_G lay ov M' V (pc + 1) (some (.int x) :: T) st M) : gl_G lay ov M' V pc (o :: T) (.int x :: st) M := by
  obtain ⟨F, p, e, R, s, m, args, below, meth, c, nL⟩ := V
  obtain ⟨hx, hb, hml, hown, hts, hK, hI, hok, hlk, hr, rfl⟩ := C
  intro H locs ls hP hS hl
  exact lv_istore_n hx hb d rfl (gl_L_has hl) (show 0 < nL by have := hl.2.2.1; simp at this; omega) rfl (fun ls' h' => k H locs ls' hP hS (gl_L_set (i := 0) hl rfl h'))
theorem gl_aload_0 {T : List (Option Value)} {q : Nat} (C : gl_C cc ws own rm ret lay V) (d : decode cc pc = .ok (.aload_n 0, 1)) (k : gl_G lay ov M' V (pc + 1) (some (.ref q) :: T) (.ref q :: st) M) : gl_G lay ov M' V pc (some (.ref q) :: T) st M := by
  obtain ⟨F, p, e, R, s, m, args, below, meth, c, nL⟩ := V
  obtain ⟨hx, hb, hml, hown, hts, hK, hI, hok, hlk, hr, rfl⟩ := C
  intro H locs ls hP hS hl
  exact lv_aload_n hx hb d rfl (gl_L_at hl (i := 0) rfl) (k H locs ls hP hS hl)
theorem gl_astore_0 {o : Option Value} {T : List (Option Value)} {q : Nat} (C : gl_C cc ws own rm ret lay V) (d : decode cc pc = .ok (.astore_n 0, 1)) (k : gl_G lay ov M' V (pc + 1) (some (.ref q) :: T) st M) : gl_G lay ov M' V pc (o :: T) (.ref q :: st) M := by
  obtain ⟨F, p, e, R, s, m, args, below, meth, c, nL⟩ := V
  obtain ⟨hx, hb, hml, hown, hts, hK, hI, hok, hlk, hr, rfl⟩ := C
  intro H locs ls hP hS hl
  exact lv_astore_n hx hb d rfl (gl_L_has hl) (show 0 < nL by have := hl.2.2.1; simp at this; omega) rfl (fun ls' h' => k H locs ls' hP hS (gl_L_set (i := 0) hl rfl h'))
theorem gl_iinc_0 {T : List (Option Value)} {x v : Int32} {n : Int} (C : gl_C cc ws own rm ret lay V) (d : decode cc pc = .ok (.iinc 0 n, 3)) (hn : x + Int32.ofInt n = v) (k : gl_G lay ov M' V (pc + 3) (some (.int (v)) :: T) st M) : gl_G lay ov M' V pc (some (.int (x)) :: T) st M := by
  obtain ⟨F, p, e, R, s, m, args, below, meth, c, nL⟩ := V
  obtain ⟨hx, hb, hml, hown, hts, hK, hI, hok, hlk, hr, rfl⟩ := C
  intro H locs ls hP hS hl
  obtain ⟨kk, hkk⟩ := List.mem_iff_getElem?.mp (gl_al_mem (i := 0).mpr (show (some (Value.int (x)) :: T)[0]? = some (some (.int (x))) from rfl))
  exact lv_iinc hx hb d (gl_L_has hl) hkk hn (show 0 < nL by have := hl.2.2.1; simp at this; omega) rfl (fun ls' h' => k H locs ls' hP hS (gl_L_set (i := 0) hl rfl h'))
theorem gl_iload_1 {o0 : Option Value} {T : List (Option Value)} {x : Int32} (C : gl_C cc ws own rm ret lay V) (d : decode cc pc = .ok (.iload_n 1, 1)) (k : gl_G lay ov M' V (pc + 1) (o0 :: some (.int x) :: T) (.int x :: st) M) : gl_G lay ov M' V pc (o0 :: some (.int x) :: T) st M := by
  obtain ⟨F, p, e, R, s, m, args, below, meth, c, nL⟩ := V
  obtain ⟨hx, hb, hml, hown, hts, hK, hI, hok, hlk, hr, rfl⟩ := C
  intro H locs ls hP hS hl
  exact lv_iload_n hx hb d rfl (gl_L_at hl (i := 1) rfl) (k H locs ls hP hS hl)
theorem gl_istore_1 {o0 : Option Value} {o : Option Value} {T : List (Option Value)} {x : Int32} (C : gl_C cc ws own rm ret lay V) (d : decode cc pc = .ok (.istore_n 1, 1)) (k : gl_G lay ov M' V (pc + 1) (o0 :: some (.int x) :: T) st M) : gl_G lay ov M' V pc (o0 :: o :: T) (.int x :: st) M := by
  obtain ⟨F, p, e, R, s, m, args, below, meth, c, nL⟩ := V
  obtain ⟨hx, hb, hml, hown, hts, hK, hI, hok, hlk, hr, rfl⟩ := C
  intro H locs ls hP hS hl
  exact lv_istore_n hx hb d rfl (gl_L_has hl) (show 1 < nL by have := hl.2.2.1; simp at this; omega) rfl (fun ls' h' => k H locs ls' hP hS (gl_L_set (i := 1) hl rfl h'))
theorem gl_aload_1 {o0 : Option Value} {T : List (Option Value)} {q : Nat} (C : gl_C cc ws own rm ret lay V) (d : decode cc pc = .ok (.aload_n 1, 1)) (k : gl_G lay ov M' V (pc + 1) (o0 :: some (.ref q) :: T) (.ref q :: st) M) : gl_G lay ov M' V pc (o0 :: some (.ref q) :: T) st M := by
  obtain ⟨F, p, e, R, s, m, args, below, meth, c, nL⟩ := V
  obtain ⟨hx, hb, hml, hown, hts, hK, hI, hok, hlk, hr, rfl⟩ := C
  intro H locs ls hP hS hl
  exact lv_aload_n hx hb d rfl (gl_L_at hl (i := 1) rfl) (k H locs ls hP hS hl)
theorem gl_astore_1 {o0 : Option Value} {o : Option Value} {T : List (Option Value)} {q : Nat} (C : gl_C cc ws own rm ret lay V) (d : decode cc pc = .ok (.astore_n 1, 1)) (k : gl_G lay ov M' V (pc + 1) (o0 :: some (.ref q) :: T) st M) : gl_G lay ov M' V pc (o0 :: o :: T) (.ref q :: st) M := by
  obtain ⟨F, p, e, R, s, m, args, below, meth, c, nL⟩ := V
  obtain ⟨hx, hb, hml, hown, hts, hK, hI, hok, hlk, hr, rfl⟩ := C
  intro H locs ls hP hS hl
  exact lv_astore_n hx hb d rfl (gl_L_has hl) (show 1 < nL by have := hl.2.2.1; simp at this; omega) rfl (fun ls' h' => k H locs ls' hP hS (gl_L_set (i := 1) hl rfl h'))
theorem gl_iinc_1 {o0 : Option Value} {T : List (Option Value)} {x v : Int32} {n : Int} (C : gl_C cc ws own rm ret lay V) (d : decode cc pc = .ok (.iinc 1 n, 3)) (hn : x + Int32.ofInt n = v) (k : gl_G lay ov M' V (pc + 3) (o0 :: some (.int (v)) :: T) st M) : gl_G lay ov M' V pc (o0 :: some (.int (x)) :: T) st M := by
  obtain ⟨F, p, e, R, s, m, args, below, meth, c, nL⟩ := V
  obtain ⟨hx, hb, hml, hown, hts, hK, hI, hok, hlk, hr, rfl⟩ := C
  intro H locs ls hP hS hl
  obtain ⟨kk, hkk⟩ := List.mem_iff_getElem?.mp (gl_al_mem (i := 1).mpr (show (o0 :: some (Value.int (x)) :: T)[1]? = some (some (.int (x))) from rfl))
  exact lv_iinc hx hb d (gl_L_has hl) hkk hn (show 1 < nL by have := hl.2.2.1; simp at this; omega) rfl (fun ls' h' => k H locs ls' hP hS (gl_L_set (i := 1) hl rfl h'))
theorem gl_iload_2 {o0 o1 : Option Value} {T : List (Option Value)} {x : Int32} (C : gl_C cc ws own rm ret lay V) (d : decode cc pc = .ok (.iload_n 2, 1)) (k : gl_G lay ov M' V (pc + 1) (o0 :: o1 :: some (.int x) :: T) (.int x :: st) M) : gl_G lay ov M' V pc (o0 :: o1 :: some (.int x) :: T) st M := by
  obtain ⟨F, p, e, R, s, m, args, below, meth, c, nL⟩ := V
  obtain ⟨hx, hb, hml, hown, hts, hK, hI, hok, hlk, hr, rfl⟩ := C
  intro H locs ls hP hS hl
  exact lv_iload_n hx hb d rfl (gl_L_at hl (i := 2) rfl) (k H locs ls hP hS hl)
theorem gl_istore_2 {o0 o1 : Option Value} {o : Option Value} {T : List (Option Value)} {x : Int32} (C : gl_C cc ws own rm ret lay V) (d : decode cc pc = .ok (.istore_n 2, 1)) (k : gl_G lay ov M' V (pc + 1) (o0 :: o1 :: some (.int x) :: T) st M) : gl_G lay ov M' V pc (o0 :: o1 :: o :: T) (.int x :: st) M := by
  obtain ⟨F, p, e, R, s, m, args, below, meth, c, nL⟩ := V
  obtain ⟨hx, hb, hml, hown, hts, hK, hI, hok, hlk, hr, rfl⟩ := C
  intro H locs ls hP hS hl
  exact lv_istore_n hx hb d rfl (gl_L_has hl) (show 2 < nL by have := hl.2.2.1; simp at this; omega) rfl (fun ls' h' => k H locs ls' hP hS (gl_L_set (i := 2) hl rfl h'))
theorem gl_aload_2 {o0 o1 : Option Value} {T : List (Option Value)} {q : Nat} (C : gl_C cc ws own rm ret lay V) (d : decode cc pc = .ok (.aload_n 2, 1)) (k : gl_G lay ov M' V (pc + 1) (o0 :: o1 :: some (.ref q) :: T) (.ref q :: st) M) : gl_G lay ov M' V pc (o0 :: o1 :: some (.ref q) :: T) st M := by
  obtain ⟨F, p, e, R, s, m, args, below, meth, c, nL⟩ := V
  obtain ⟨hx, hb, hml, hown, hts, hK, hI, hok, hlk, hr, rfl⟩ := C
  intro H locs ls hP hS hl
  exact lv_aload_n hx hb d rfl (gl_L_at hl (i := 2) rfl) (k H locs ls hP hS hl)
theorem gl_astore_2 {o0 o1 : Option Value} {o : Option Value} {T : List (Option Value)} {q : Nat} (C : gl_C cc ws own rm ret lay V) (d : decode cc pc = .ok (.astore_n 2, 1)) (k : gl_G lay ov M' V (pc + 1) (o0 :: o1 :: some (.ref q) :: T) st M) : gl_G lay ov M' V pc (o0 :: o1 :: o :: T) (.ref q :: st) M := by
  obtain ⟨F, p, e, R, s, m, args, below, meth, c, nL⟩ := V
  obtain ⟨hx, hb, hml, hown, hts, hK, hI, hok, hlk, hr, rfl⟩ := C
  intro H locs ls hP hS hl
  exact lv_astore_n hx hb d rfl (gl_L_has hl) (show 2 < nL by have := hl.2.2.1; simp at this; omega) rfl (fun ls' h' => k H locs ls' hP hS (gl_L_set (i := 2) hl rfl h'))
theorem gl_iinc_2 {o0 o1 : Option Value} {T : List (Option Value)} {x v : Int32} {n : Int} (C : gl_C cc ws own rm ret lay V) (d : decode cc pc = .ok (.iinc 2 n, 3)) (hn : x + Int32.ofInt n = v) (k : gl_G lay ov M' V (pc + 3) (o0 :: o1 :: some (.int (v)) :: T) st M) : gl_G lay ov M' V pc (o0 :: o1 :: some (.int (x)) :: T) st M := by
  obtain ⟨F, p, e, R, s, m, args, below, meth, c, nL⟩ := V
  obtain ⟨hx, hb, hml, hown, hts, hK, hI, hok, hlk, hr, rfl⟩ := C
  intro H locs ls hP hS hl
  obtain ⟨kk, hkk⟩ := List.mem_iff_getElem?.mp (gl_al_mem (i := 2).mpr (show (o0 :: o1 :: some (Value.int (x)) :: T)[2]? = some (some (.int (x))) from rfl))
  exact lv_iinc hx hb d (gl_L_has hl) hkk hn (show 2 < nL by have := hl.2.2.1; simp at this; omega) rfl (fun ls' h' => k H locs ls' hP hS (gl_L_set (i := 2) hl rfl h'))
theorem gl_iload_3 {o0 o1 o2 : Option Value} {T : List (Option Value)} {x : Int32} (C : gl_C cc ws own rm ret lay V) (d : decode cc pc = .ok (.iload_n 3, 1)) (k : gl_G lay ov M' V (pc + 1) (o0 :: o1 :: o2 :: some (.int x) :: T) (.int x :: st) M) : gl_G lay ov M' V pc (o0 :: o1 :: o2 :: some (.int x) :: T) st M := by
  obtain ⟨F, p, e, R, s, m, args, below, meth, c, nL⟩ := V
  obtain ⟨hx, hb, hml, hown, hts, hK, hI, hok, hlk, hr, rfl⟩ := C
  intro H locs ls hP hS hl
  exact lv_iload_n hx hb d rfl (gl_L_at hl (i := 3) rfl) (k H locs ls hP hS hl)
theorem gl_istore_3 {o0 o1 o2 : Option Value} {o : Option Value} {T : List (Option Value)} {x : Int32} (C : gl_C cc ws own rm ret lay V) (d : decode cc pc = .ok (.istore_n 3, 1)) (k : gl_G lay ov M' V (pc + 1) (o0 :: o1 :: o2 :: some (.int x) :: T) st M) : gl_G lay ov M' V pc (o0 :: o1 :: o2 :: o :: T) (.int x :: st) M := by
  obtain ⟨F, p, e, R, s, m, args, below, meth, c, nL⟩ := V
  obtain ⟨hx, hb, hml, hown, hts, hK, hI, hok, hlk, hr, rfl⟩ := C
  intro H locs ls hP hS hl
  exact lv_istore_n hx hb d rfl (gl_L_has hl) (show 3 < nL by have := hl.2.2.1; simp at this; omega) rfl (fun ls' h' => k H locs ls' hP hS (gl_L_set (i := 3) hl rfl h'))
theorem gl_aload_3 {o0 o1 o2 : Option Value} {T : List (Option Value)} {q : Nat} (C : gl_C cc ws own rm ret lay V) (d : decode cc pc = .ok (.aload_n 3, 1)) (k : gl_G lay ov M' V (pc + 1) (o0 :: o1 :: o2 :: some (.ref q) :: T) (.ref q :: st) M) : gl_G lay ov M' V pc (o0 :: o1 :: o2 :: some (.ref q) :: T) st M := by
  obtain ⟨F, p, e, R, s, m, args, below, meth, c, nL⟩ := V
  obtain ⟨hx, hb, hml, hown, hts, hK, hI, hok, hlk, hr, rfl⟩ := C
  intro H locs ls hP hS hl
  exact lv_aload_n hx hb d rfl (gl_L_at hl (i := 3) rfl) (k H locs ls hP hS hl)
theorem gl_astore_3 {o0 o1 o2 : Option Value} {o : Option Value} {T : List (Option Value)} {q : Nat} (C : gl_C cc ws own rm ret lay V) (d : decode cc pc = .ok (.astore_n 3, 1)) (k : gl_G lay ov M' V (pc + 1) (o0 :: o1 :: o2 :: some (.ref q) :: T) st M) : gl_G lay ov M' V pc (o0 :: o1 :: o2 :: o :: T) (.ref q :: st) M := by
  obtain ⟨F, p, e, R, s, m, args, below, meth, c, nL⟩ := V
  obtain ⟨hx, hb, hml, hown, hts, hK, hI, hok, hlk, hr, rfl⟩ := C
  intro H locs ls hP hS hl
  exact lv_astore_n hx hb d rfl (gl_L_has hl) (show 3 < nL by have := hl.2.2.1; simp at this; omega) rfl (fun ls' h' => k H locs ls' hP hS (gl_L_set (i := 3) hl rfl h'))
theorem gl_iinc_3 {o0 o1 o2 : Option Value} {T : List (Option Value)} {x v : Int32} {n : Int} (C : gl_C cc ws own rm ret lay V) (d : decode cc pc = .ok (.iinc 3 n, 3)) (hn : x + Int32.ofInt n = v) (k : gl_G lay ov M' V (pc + 3) (o0 :: o1 :: o2 :: some (.int (v)) :: T) st M) : gl_G lay ov M' V pc (o0 :: o1 :: o2 :: some (.int (x)) :: T) st M := by
  obtain ⟨F, p, e, R, s, m, args, below, meth, c, nL⟩ := V
  obtain ⟨hx, hb, hml, hown, hts, hK, hI, hok, hlk, hr, rfl⟩ := C
  intro H locs ls hP hS hl
  obtain ⟨kk, hkk⟩ := List.mem_iff_getElem?.mp (gl_al_mem (i := 3).mpr (show (o0 :: o1 :: o2 :: some (Value.int (x)) :: T)[3]? = some (some (.int (x))) from rfl))
  exact lv_iinc hx hb d (gl_L_has hl) hkk hn (show 3 < nL by have := hl.2.2.1; simp at this; omega) rfl (fun ls' h' => k H locs ls' hP hS (gl_L_set (i := 3) hl rfl h'))
theorem gl_iload_4 {o0 o1 o2 o3 : Option Value} {T : List (Option Value)} {x : Int32} (C : gl_C cc ws own rm ret lay V) (d : decode cc pc = .ok (.iload 4, 2)) (k : gl_G lay ov M' V (pc + 2) (o0 :: o1 :: o2 :: o3 :: some (.int x) :: T) (.int x :: st) M) : gl_G lay ov M' V pc (o0 :: o1 :: o2 :: o3 :: some (.int x) :: T) st M := by
  obtain ⟨F, p, e, R, s, m, args, below, meth, c, nL⟩ := V
  obtain ⟨hx, hb, hml, hown, hts, hK, hI, hok, hlk, hr, rfl⟩ := C
  intro H locs ls hP hS hl
  exact lv_iload hx hb d (gl_L_at hl (i := 4) rfl) (k H locs ls hP hS hl)
theorem gl_istore_4 {o0 o1 o2 o3 : Option Value} {o : Option Value} {T : List (Option Value)} {x : Int32} (C : gl_C cc ws own rm ret lay V) (d : decode cc pc = .ok (.istore 4, 2)) (k : gl_G lay ov M' V (pc + 2) (o0 :: o1 :: o2 :: o3 :: some (.int x) :: T) st M) : gl_G lay ov M' V pc (o0 :: o1 :: o2 :: o3 :: o :: T) (.int x :: st) M := by
  obtain ⟨F, p, e, R, s, m, args, below, meth, c, nL⟩ := V
  obtain ⟨hx, hb, hml, hown, hts, hK, hI, hok, hlk, hr, rfl⟩ := C
  intro H locs ls hP hS hl
  exact lv_istore hx hb d (gl_L_has hl) (show 4 < nL by have := hl.2.2.1; simp at this; omega) rfl (fun ls' h' => k H locs ls' hP hS (gl_L_set (i := 4) hl rfl h'))
theorem gl_aload_4 {o0 o1 o2 o3 : Option Value} {T : List (Option Value)} {q : Nat} (C : gl_C cc ws own rm ret lay V) (d : decode cc pc = .ok (.aload 4, 2)) (k : gl_G lay ov M' V (pc + 2) (o0 :: o1 :: o2 :: o3 :: some (.ref q) :: T) (.ref q :: st) M) : gl_G lay ov M' V pc (o0 :: o1 :: o2 :: o3 :: some (.ref q) :: T) st M := by
  obtain ⟨F, p, e, R, s, m, args, below, meth, c, nL⟩ := V
  obtain ⟨hx, hb, hml, hown, hts, hK, hI, hok, hlk, hr, rfl⟩ := C
  intro H locs ls hP hS hl
  exact lv_aload hx hb d (gl_L_at hl (i := 4) rfl) (k H locs ls hP hS hl)
theorem gl_astore_4 {o0 o1 o2 o3 : Option Value} {o : Option Value} {T : List (Option Value)} {q : Nat} (C : gl_C cc ws own rm ret lay V) (d : decode cc pc = .ok (.astore 4, 2)) (k : gl_G lay ov M' V (pc + 2) (o0 :: o1 :: o2 :: o3 :: some (.ref q) :: T) st M) : gl_G lay ov M' V pc (o0 :: o1 :: o2 :: o3 :: o :: T) (.ref q :: st) M := by
  obtain ⟨F, p, e, R, s, m, args, below, meth, c, nL⟩ := V
  obtain ⟨hx, hb, hml, hown, hts, hK, hI, hok, hlk, hr, rfl⟩ := C
  intro H locs ls hP hS hl
  exact lv_astore hx hb d (gl_L_has hl) (show 4 < nL by have := hl.2.2.1; simp at this; omega) rfl (fun ls' h' => k H locs ls' hP hS (gl_L_set (i := 4) hl rfl h'))
theorem gl_iinc_4 {o0 o1 o2 o3 : Option Value} {T : List (Option Value)} {x v : Int32} {n : Int} (C : gl_C cc ws own rm ret lay V) (d : decode cc pc = .ok (.iinc 4 n, 3)) (hn : x + Int32.ofInt n = v) (k : gl_G lay ov M' V (pc + 3) (o0 :: o1 :: o2 :: o3 :: some (.int (v)) :: T) st M) : gl_G lay ov M' V pc (o0 :: o1 :: o2 :: o3 :: some (.int (x)) :: T) st M := by
  obtain ⟨F, p, e, R, s, m, args, below, meth, c, nL⟩ := V
  obtain ⟨hx, hb, hml, hown, hts, hK, hI, hok, hlk, hr, rfl⟩ := C
  intro H locs ls hP hS hl
  obtain ⟨kk, hkk⟩ := List.mem_iff_getElem?.mp (gl_al_mem (i := 4).mpr (show (o0 :: o1 :: o2 :: o3 :: some (Value.int (x)) :: T)[4]? = some (some (.int (x))) from rfl))
  exact lv_iinc hx hb d (gl_L_has hl) hkk hn (show 4 < nL by have := hl.2.2.1; simp at this; omega) rfl (fun ls' h' => k H locs ls' hP hS (gl_L_set (i := 4) hl rfl h'))
theorem gl_iload_5 {o0 o1 o2 o3 o4 : Option Value} {T : List (Option Value)} {x : Int32} (C : gl_C cc ws own rm ret lay V) (d : decode cc pc = .ok (.iload 5, 2)) (k : gl_G lay ov M' V (pc + 2) (o0 :: o1 :: o2 :: o3 :: o4 :: some (.int x) :: T) (.int x :: st) M) : gl_G lay ov M' V pc (o0 :: o1 :: o2 :: o3 :: o4 :: some (.int x) :: T) st M := by
  obtain ⟨F, p, e, R, s, m, args, below, meth, c, nL⟩ := V
  obtain ⟨hx, hb, hml, hown, hts, hK, hI, hok, hlk, hr, rfl⟩ := C
  intro H locs ls hP hS hl
  exact lv_iload hx hb d (gl_L_at hl (i := 5) rfl) (k H locs ls hP hS hl)
theorem gl_istore_5 {o0 o1 o2 o3 o4 : Option Value} {o : Option Value} {T : List (Option Value)} {x : Int32} (C : gl_C cc ws own rm ret lay V) (d : decode cc pc = .ok (.istore 5, 2)) (k : gl_G lay ov M' V (pc + 2) (o0 :: o1 :: o2 :: o3 :: o4 :: some (.int x) :: T) st M) : gl_G lay ov M' V pc (o0 :: o1 :: o2 :: o3 :: o4 :: o :: T) (.int x :: st) M := by
  obtain ⟨F, p, e, R, s, m, args, below, meth, c, nL⟩ := V
  obtain ⟨hx, hb, hml, hown, hts, hK, hI, hok, hlk, hr, rfl⟩ := C
  intro H locs ls hP hS hl
  exact lv_istore hx hb d (gl_L_has hl) (show 5 < nL by have := hl.2.2.1; simp at this; omega) rfl (fun ls' h' => k H locs ls' hP hS (gl_L_set (i := 5) hl rfl h'))
theorem gl_iinc_5 {o0 o1 o2 o3 o4 : Option Value} {T : List (Option Value)} {x v : Int32} {n : Int} (C : gl_C cc ws own rm ret lay V) (d : decode cc pc = .ok (.iinc 5 n, 3)) (hn : x + Int32.ofInt n = v) (k : gl_G lay ov M' V (pc + 3) (o0 :: o1 :: o2 :: o3 :: o4 :: some (.int (v)) :: T) st M) : gl_G lay ov M' V pc (o0 :: o1 :: o2 :: o3 :: o4 :: some (.int (x)) :: T) st M := by
  obtain ⟨F, p, e, R, s, m, args, below, meth, c, nL⟩ := V
  obtain ⟨hx, hb, hml, hown, hts, hK, hI, hok, hlk, hr, rfl⟩ := C
  intro H locs ls hP hS hl
  obtain ⟨kk, hkk⟩ := List.mem_iff_getElem?.mp (gl_al_mem (i := 5).mpr (show (o0 :: o1 :: o2 :: o3 :: o4 :: some (Value.int (x)) :: T)[5]? = some (some (.int (x))) from rfl))
  exact lv_iinc hx hb d (gl_L_has hl) hkk hn (show 5 < nL by have := hl.2.2.1; simp at this; omega) rfl (fun ls' h' => k H locs ls' hP hS (gl_L_set (i := 5) hl rfl h'))
theorem gl_iload_6 {o0 o1 o2 o3 o4 o5 : Option Value} {T : List (Option Value)} {x : Int32} (C : gl_C cc ws own rm ret lay V) (d : decode cc pc = .ok (.iload 6, 2)) (k : gl_G lay ov M' V (pc + 2) (o0 :: o1 :: o2 :: o3 :: o4 :: o5 :: some (.int x) :: T) (.int x :: st) M) : gl_G lay ov M' V pc (o0 :: o1 :: o2 :: o3 :: o4 :: o5 :: some (.int x) :: T) st M := by
  obtain ⟨F, p, e, R, s, m, args, below, meth, c, nL⟩ := V
  obtain ⟨hx, hb, hml, hown, hts, hK, hI, hok, hlk, hr, rfl⟩ := C
  intro H locs ls hP hS hl
  exact lv_iload hx hb d (gl_L_at hl (i := 6) rfl) (k H locs ls hP hS hl)
theorem gl_istore_6 {o0 o1 o2 o3 o4 o5 : Option Value} {o : Option Value} {T : List (Option Value)} {x : Int32} (C : gl_C cc ws own rm ret lay V) (d : decode cc pc = .ok (.istore 6, 2)) (k : gl_G lay ov M' V (pc + 2) (o0 :: o1 :: o2 :: o3 :: o4 :: o5 :: some (.int x) :: T) st M) : gl_G lay ov M' V pc (o0 :: o1 :: o2 :: o3 :: o4 :: o5 :: o :: T) (.int x :: st) M := by
  obtain ⟨F, p, e, R, s, m, args, below, meth, c, nL⟩ := V
  obtain ⟨hx, hb, hml, hown, hts, hK, hI, hok, hlk, hr, rfl⟩ := C
  intro H locs ls hP hS hl
  exact lv_istore hx hb d (gl_L_has hl) (show 6 < nL by have := hl.2.2.1; simp at this; omega) rfl (fun ls' h' => k H locs ls' hP hS (gl_L_set (i := 6) hl rfl h'))
theorem gl_iinc_6 {o0 o1 o2 o3 o4 o5 : Option Value} {T : List (Option Value)} {x v : Int32} {n : Int} (C : gl_C cc ws own rm ret lay V) (d : decode cc pc = .ok (.iinc 6 n, 3)) (hn : x + Int32.ofInt n = v) (k : gl_G lay ov M' V (pc + 3) (o0 :: o1 :: o2 :: o3 :: o4 :: o5 :: some (.int (v)) :: T) st M) : gl_G lay ov M' V pc (o0 :: o1 :: o2 :: o3 :: o4 :: o5 :: some (.int (x)) :: T) st M := by
  obtain ⟨F, p, e, R, s, m, args, below, meth, c, nL⟩ := V
  obtain ⟨hx, hb, hml, hown, hts, hK, hI, hok, hlk, hr, rfl⟩ := C
  intro H locs ls hP hS hl
  obtain ⟨kk, hkk⟩ := List.mem_iff_getElem?.mp (gl_al_mem (i := 6).mpr (show (o0 :: o1 :: o2 :: o3 :: o4 :: o5 :: some (Value.int (x)) :: T)[6]? = some (some (.int (x))) from rfl))
  exact lv_iinc hx hb d (gl_L_has hl) hkk hn (show 6 < nL by have := hl.2.2.1; simp at this; omega) rfl (fun ls' h' => k H locs ls' hP hS (gl_L_set (i := 6) hl rfl h'))
theorem gl_iload_7 {o0 o1 o2 o3 o4 o5 o6 : Option Value} {T : List (Option Value)} {x : Int32} (C : gl_C cc ws own rm ret lay V) (d : decode cc pc = .ok (.iload 7, 2)) (k : gl_G lay ov M' V (pc + 2) (o0 :: o1 :: o2 :: o3 :: o4 :: o5 :: o6 :: some (.int x) :: T) (.int x :: st) M) : gl_G lay ov M' V pc (o0 :: o1 :: o2 :: o3 :: o4 :: o5 :: o6 :: some (.int x) :: T) st M := by
  obtain ⟨F, p, e, R, s, m, args, below, meth, c, nL⟩ := V
  obtain ⟨hx, hb, hml, hown, hts, hK, hI, hok, hlk, hr, rfl⟩ := C
  intro H locs ls hP hS hl
  exact lv_iload hx hb d (gl_L_at hl (i := 7) rfl) (k H locs ls hP hS hl)
theorem gl_istore_7 {o0 o1 o2 o3 o4 o5 o6 : Option Value} {o : Option Value} {T : List (Option Value)} {x : Int32} (C : gl_C cc ws own rm ret lay V) (d : decode cc pc = .ok (.istore 7, 2)) (k : gl_G lay ov M' V (pc + 2) (o0 :: o1 :: o2 :: o3 :: o4 :: o5 :: o6 :: some (.int x) :: T) st M) : gl_G lay ov M' V pc (o0 :: o1 :: o2 :: o3 :: o4 :: o5 :: o6 :: o :: T) (.int x :: st) M := by
  obtain ⟨F, p, e, R, s, m, args, below, meth, c, nL⟩ := V
  obtain ⟨hx, hb, hml, hown, hts, hK, hI, hok, hlk, hr, rfl⟩ := C
  intro H locs ls hP hS hl
  exact lv_istore hx hb d (gl_L_has hl) (show 7 < nL by have := hl.2.2.1; simp at this; omega) rfl (fun ls' h' => k H locs ls' hP hS (gl_L_set (i := 7) hl rfl h'))
theorem gl_iinc_7 {o0 o1 o2 o3 o4 o5 o6 : Option Value} {T : List (Option Value)} {x v : Int32} {n : Int} (C : gl_C cc ws own rm ret lay V) (d : decode cc pc = .ok (.iinc 7 n, 3)) (hn : x + Int32.ofInt n = v) (k : gl_G lay ov M' V (pc + 3) (o0 :: o1 :: o2 :: o3 :: o4 :: o5 :: o6 :: some (.int (v)) :: T) st M) : gl_G lay ov M' V pc (o0 :: o1 :: o2 :: o3 :: o4 :: o5 :: o6 :: some (.int (x)) :: T) st M := by
  obtain ⟨F, p, e, R, s, m, args, below, meth, c, nL⟩ := V
  obtain ⟨hx, hb, hml, hown, hts, hK, hI, hok, hlk, hr, rfl⟩ := C
  intro H locs ls hP hS hl
  obtain ⟨kk, hkk⟩ := List.mem_iff_getElem?.mp (gl_al_mem (i := 7).mpr (show (o0 :: o1 :: o2 :: o3 :: o4 :: o5 :: o6 :: some (Value.int (x)) :: T)[7]? = some (some (.int (x))) from rfl))
  exact lv_iinc hx hb d (gl_L_has hl) hkk hn (show 7 < nL by have := hl.2.2.1; simp at this; omega) rfl (fun ls' h' => k H locs ls' hP hS (gl_L_set (i := 7) hl rfl h'))
theorem gl_iload_8 {o0 o1 o2 o3 o4 o5 o6 o7 : Option Value} {T : List (Option Value)} {x : Int32} (C : gl_C cc ws own rm ret lay V) (d : decode cc pc = .ok (.iload 8, 2)) (k : gl_G lay ov M' V (pc + 2) (o0 :: o1 :: o2 :: o3 :: o4 :: o5 :: o6 :: o7 :: some (.int x) :: T) (.int x :: st) M) : gl_G lay ov M' V pc (o0 :: o1 :: o2 :: o3 :: o4 :: o5 :: o6 :: o7 :: some (.int x) :: T) st M := by
  obtain ⟨F, p, e, R, s, m, args, below, meth, c, nL⟩ := V
  obtain ⟨hx, hb, hml, hown, hts, hK, hI, hok, hlk, hr, rfl⟩ := C
  intro H locs ls hP hS hl
  exact lv_iload hx hb d (gl_L_at hl (i := 8) rfl) (k H locs ls hP hS hl)
theorem gl_istore_8 {o0 o1 o2 o3 o4 o5 o6 o7 : Option Value} {o : Option Value} {T : List (Option Value)} {x : Int32} (C : gl_C cc ws own rm ret lay V) (d : decode cc pc = .ok (.istore 8, 2)) (k : gl_G lay ov M' V (pc + 2) (o0 :: o1 :: o2 :: o3 :: o4 :: o5 :: o6 :: o7 :: some (.int x) :: T) st M) : gl_G lay ov M' V pc (o0 :: o1 :: o2 :: o3 :: o4 :: o5 :: o6 :: o7 :: o :: T) (.int x :: st) M := by
  obtain ⟨F, p, e, R, s, m, args, below, meth, c, nL⟩ := V
  obtain ⟨hx, hb, hml, hown, hts, hK, hI, hok, hlk, hr, rfl⟩ := C
  intro H locs ls hP hS hl
  exact lv_istore hx hb d (gl_L_has hl) (show 8 < nL by have := hl.2.2.1; simp at this; omega) rfl (fun ls' h' => k H locs ls' hP hS (gl_L_set (i := 8) hl rfl h'))
theorem gl_iinc_8 {o0 o1 o2 o3 o4 o5 o6 o7 : Option Value} {T : List (Option Value)} {x v : Int32} {n : Int} (C : gl_C cc ws own rm ret lay V) (d : decode cc pc = .ok (.iinc 8 n, 3)) (hn : x + Int32.ofInt n = v) (k : gl_G lay ov M' V (pc + 3) (o0 :: o1 :: o2 :: o3 :: o4 :: o5 :: o6 :: o7 :: some (.int (v)) :: T) st M) : gl_G lay ov M' V pc (o0 :: o1 :: o2 :: o3 :: o4 :: o5 :: o6 :: o7 :: some (.int (x)) :: T) st M := by
  obtain ⟨F, p, e, R, s, m, args, below, meth, c, nL⟩ := V
  obtain ⟨hx, hb, hml, hown, hts, hK, hI, hok, hlk, hr, rfl⟩ := C
  intro H locs ls hP hS hl
  obtain ⟨kk, hkk⟩ := List.mem_iff_getElem?.mp (gl_al_mem (i := 8).mpr (show (o0 :: o1 :: o2 :: o3 :: o4 :: o5 :: o6 :: o7 :: some (Value.int (x)) :: T)[8]? = some (some (.int (x))) from rfl))
  exact lv_iinc hx hb d (gl_L_has hl) hkk hn (show 8 < nL by have := hl.2.2.1; simp at this; omega) rfl (fun ls' h' => k H locs ls' hP hS (gl_L_set (i := 8) hl rfl h'))
theorem gl_iload_9 {o0 o1 o2 o3 o4 o5 o6 o7 o8 : Option Value} {T : List (Option Value)} {x : Int32} (C : gl_C cc ws own rm ret lay V) (d : decode cc pc = .ok (.iload 9, 2)) (k : gl_G lay ov M' V (pc + 2) (o0 :: o1 :: o2 :: o3 :: o4 :: o5 :: o6 :: o7 :: o8 :: some (.int x) :: T) (.int x :: st) M) : gl_G lay ov M' V pc (o0 :: o1 :: o2 :: o3 :: o4 :: o5 :: o6 :: o7 :: o8 :: some (.int x) :: T) st M := by
  obtain ⟨F, p, e, R, s, m, args, below, meth, c, nL⟩ := V
  obtain ⟨hx, hb, hml, hown, hts, hK, hI, hok, hlk, hr, rfl⟩ := C
  intro H locs ls hP hS hl
  exact lv_iload hx hb d (gl_L_at hl (i := 9) rfl) (k H locs ls hP hS hl)
theorem gl_istore_9 {o0 o1 o2 o3 o4 o5 o6 o7 o8 : Option Value} {o : Option Value} {T : List (Option Value)} {x : Int32} (C : gl_C cc ws own rm ret lay V) (d : decode cc pc = .ok (.istore 9, 2)) (k : gl_G lay ov M' V (pc + 2) (o0 :: o1 :: o2 :: o3 :: o4 :: o5 :: o6 :: o7 :: o8 :: some (.int x) :: T) st M) : gl_G lay ov M' V pc (o0 :: o1 :: o2 :: o3 :: o4 :: o5 :: o6 :: o7 :: o8 :: o :: T) (.int x :: st) M := by
  obtain ⟨F, p, e, R, s, m, args, below, meth, c, nL⟩ := V
  obtain ⟨hx, hb, hml, hown, hts, hK, hI, hok, hlk, hr, rfl⟩ := C
  intro H locs ls hP hS hl
  exact lv_istore hx hb d (gl_L_has hl) (show 9 < nL by have := hl.2.2.1; simp at this; omega) rfl (fun ls' h' => k H locs ls' hP hS (gl_L_set (i := 9) hl rfl h'))
theorem gl_iinc_9 {o0 o1 o2 o3 o4 o5 o6 o7 o8 : Option Value} {T : List (Option Value)} {x v : Int32} {n : Int} (C : gl_C cc ws own rm ret lay V) (d : decode cc pc = .ok (.iinc 9 n, 3)) (hn : x + Int32.ofInt n = v) (k : gl_G lay ov M' V (pc + 3) (o0 :: o1 :: o2 :: o3 :: o4 :: o5 :: o6 :: o7 :: o8 :: some (.int (v)) :: T) st M) : gl_G lay ov M' V pc (o0 :: o1 :: o2 :: o3 :: o4 :: o5 :: o6 :: o7 :: o8 :: some (.int (x)) :: T) st M := by
  obtain ⟨F, p, e, R, s, m, args, below, meth, c, nL⟩ := V
  obtain ⟨hx, hb, hml, hown, hts, hK, hI, hok, hlk, hr, rfl⟩ := C
  intro H locs ls hP hS hl
  obtain ⟨kk, hkk⟩ := List.mem_iff_getElem?.mp (gl_al_mem (i := 9).mpr (show (o0 :: o1 :: o2 :: o3 :: o4 :: o5 :: o6 :: o7 :: o8 :: some (Value.int (x)) :: T)[9]? = some (some (.int (x))) from rfl))
  exact lv_iinc hx hb d (gl_L_has hl) hkk hn (show 9 < nL by have := hl.2.2.1; simp at this; omega) rfl (fun ls' h' => k H locs ls' hP hS (gl_L_set (i := 9) hl rfl h'))
theorem gl_iload_10 {o0 o1 o2 o3 o4 o5 o6 o7 o8 o9 : Option Value} {T : List (Option Value)} {x : Int32} (C : gl_C cc ws own rm ret lay V) (d : decode cc pc = .ok (.iload 10, 2)) (k : gl_G lay ov M' V (pc + 2) (o0 :: o1 :: o2 :: o3 :: o4 :: o5 :: o6 :: o7 :: o8 :: o9 :: some (.int x) :: T) (.int x :: st) M) : gl_G lay ov M' V pc (o0 :: o1 :: o2 :: o3 :: o4 :: o5 :: o6 :: o7 :: o8 :: o9 :: some (.int x) :: T) st M := by
  obtain ⟨F, p, e, R, s, m, args, below, meth, c, nL⟩ := V
  obtain ⟨hx, hb, hml, hown, hts, hK, hI, hok, hlk, hr, rfl⟩ := C
  intro H locs ls hP hS hl
  exact lv_iload hx hb d (gl_L_at hl (i := 10) rfl) (k H locs ls hP hS hl)
theorem gl_istore_10 {o0 o1 o2 o3 o4 o5 o6 o7 o8 o9 : Option Value} {o : Option Value} {T : List (Option Value)} {x : Int32} (C : gl_C cc ws own rm ret lay V) (d : decode cc pc = .ok (.istore 10, 2)) (k : gl_G lay ov M' V (pc + 2) (o0 :: o1 :: o2 :: o3 :: o4 :: o5 :: o6 :: o7 :: o8 :: o9 :: some (.int x) :: T) st M) : gl_G lay ov M' V pc (o0 :: o1 :: o2 :: o3 :: o4 :: o5 :: o6 :: o7 :: o8 :: o9 :: o :: T) (.int x :: st) M := by
  obtain ⟨F, p, e, R, s, m, args, below, meth, c, nL⟩ := V
  obtain ⟨hx, hb, hml, hown, hts, hK, hI, hok, hlk, hr, rfl⟩ := C
  intro H locs ls hP hS hl
  exact lv_istore hx hb d (gl_L_has hl) (show 10 < nL by have := hl.2.2.1; simp at this; omega) rfl (fun ls' h' => k H locs ls' hP hS (gl_L_set (i := 10) hl rfl h'))
theorem gl_iinc_10 {o0 o1 o2 o3 o4 o5 o6 o7 o8 o9 : Option Value} {T : List (Option Value)} {x v : Int32} {n : Int} (C : gl_C cc ws own rm ret lay V) (d : decode cc pc = .ok (.iinc 10 n, 3)) (hn : x + Int32.ofInt n = v) (k : gl_G lay ov M' V (pc + 3) (o0 :: o1 :: o2 :: o3 :: o4 :: o5 :: o6 :: o7 :: o8 :: o9 :: some (.int (v)) :: T) st M) : gl_G lay ov M' V pc (o0 :: o1 :: o2 :: o3 :: o4 :: o5 :: o6 :: o7 :: o8 :: o9 :: some (.int (x)) :: T) st M := by
  obtain ⟨F, p, e, R, s, m, args, below, meth, c, nL⟩ := V
  obtain ⟨hx, hb, hml, hown, hts, hK, hI, hok, hlk, hr, rfl⟩ := C
  intro H locs ls hP hS hl
  obtain ⟨kk, hkk⟩ := List.mem_iff_getElem?.mp (gl_al_mem (i := 10).mpr (show (o0 :: o1 :: o2 :: o3 :: o4 :: o5 :: o6 :: o7 :: o8 :: o9 :: some (Value.int (x)) :: T)[10]? = some (some (.int (x))) from rfl))
  exact lv_iinc hx hb d (gl_L_has hl) hkk hn (show 10 < nL by have := hl.2.2.1; simp at this; omega) rfl (fun ls' h' => k H locs ls' hP hS (gl_L_set (i := 10) hl rfl h'))
theorem gl_iload_11 {o0 o1 o2 o3 o4 o5 o6 o7 o8 o9 o10 : Option Value} {T : List (Option Value)} {x : Int32} (C : gl_C cc ws own rm ret lay V) (d : decode cc pc = .ok (.iload 11, 2)) (k : gl_G lay ov M' V (pc + 2) (o0 :: o1 :: o2 :: o3 :: o4 :: o5 :: o6 :: o7 :: o8 :: o9 :: o10 :: some (.int x) :: T) (.int x :: st) M) : gl_G lay ov M' V pc (o0 :: o1 :: o2 :: o3 :: o4 :: o5 :: o6 :: o7 :: o8 :: o9 :: o10 :: some (.int x) :: T) st M := by
  obtain ⟨F, p, e, R, s, m, args, below, meth, c, nL⟩ := V
  obtain ⟨hx, hb, hml, hown, hts, hK, hI, hok, hlk, hr, rfl⟩ := C
  intro H locs ls hP hS hl
  exact lv_iload hx hb d (gl_L_at hl (i := 11) rfl) (k H locs ls hP hS hl)
theorem gl_istore_11 {o0 o1 o2 o3 o4 o5 o6 o7 o8 o9 o10 : Option Value} {o : Option Value} {T : List (Option Value)} {x : Int32} (C : gl_C cc ws own rm ret lay V) (d : decode cc pc = .ok (.istore 11, 2)) (k : gl_G lay ov M' V (pc + 2) (o0 :: o1 :: o2 :: o3 :: o4 :: o5 :: o6 :: o7 :: o8 :: o9 :: o10 :: some (.int x) :: T) st M) : gl_G lay ov M' V pc (o0 :: o1 :: o2 :: o3 :: o4 :: o5 :: o6 :: o7 :: o8 :: o9 :: o10 :: o :: T) (.int x :: st) M := by
  obtain ⟨F, p, e, R, s, m, args, below, meth, c, nL⟩ := V
  obtain ⟨hx, hb, hml, hown, hts, hK, hI, hok, hlk, hr, rfl⟩ := C
  intro H locs ls hP hS hl
  exact lv_istore hx hb d (gl_L_has hl) (show 11 < nL by have := hl.2.2.1; simp at this; omega) rfl (fun ls' h' => k H locs ls' hP hS (gl_L_set (i := 11) hl rfl h'))
theorem gl_iinc_11 {o0 o1 o2 o3 o4 o5 o6 o7 o8 o9 o10 : Option Value} {T : List (Option Value)} {x v : Int32} {n : Int} (C : gl_C cc ws own rm ret lay V) (d : decode cc pc = .ok (.iinc 11 n, 3)) (hn : x + Int32.ofInt n = v) (k : gl_G lay ov M' V (pc + 3) (o0 :: o1 :: o2 :: o3 :: o4 :: o5 :: o6 :: o7 :: o8 :: o9 :: o10 :: some (.int (v)) :: T) st M) : gl_G lay ov M' V pc (o0 :: o1 :: o2 :: o3 :: o4 :: o5 :: o6 :: o7 :: o8 :: o9 :: o10 :: some (.int (x)) :: T) st M := by
  obtain ⟨F, p, e, R, s, m, args, below, meth, c, nL⟩ := V
  obtain ⟨hx, hb, hml, hown, hts, hK, hI, hok, hlk, hr, rfl⟩ := C
  intro H locs ls hP hS hl
  obtain ⟨kk, hkk⟩ := List.mem_iff_getElem?.mp (gl_al_mem (i := 11).mpr (show (o0 :: o1 :: o2 :: o3 :: o4 :: o5 :: o6 :: o7 :: o8 :: o9 :: o10 :: some (Value.int (x)) :: T)[11]? = some (some (.int (x))) from rfl))
  exact lv_iinc hx hb d (gl_L_has hl) hkk hn (show 11 < nL by have := hl.2.2.1; simp at this; omega) rfl (fun ls' h' => k H locs ls' hP hS (gl_L_set (i := 11) hl rfl h'))
/-- a field that an instruction of a method reads or writes: pool index, class, slot -/
def gl_fl (ws : List Cond) (own : String) (index ci k : Nat) : Prop := ∃ (Cl : String) (T : u_T) (N : Nat) (ref : String), vwCl[ci]? = some (Cl, T, N) ∧ k < N ∧ (∀ w ∈ u_ws Cl T N, w ∈ ws) ∧ Cond.fieldLink own index ref (T k).2.1 (T k).2.2.1 ∈ ws ∧ ref = (T k).1
def gl_fp (ws : List Cond) (own : String) (index ci k : Nat) : Prop := ∃ (Cl : String) (T : u_T) (N : Nat) (ref : String) (ty0 : Nat → FieldType), vwCl[ci]? = some (Cl, T, N) ∧ k < N ∧ (∀ w ∈ u_ws Cl T N, w ∈ ws) ∧ Cond.fieldLink own index ref (T k).2.1 (T k).2.2.1 ∈ ws ∧ ref = (T k).1 ∧ (∀ k, k < N → parseFieldDescriptor (T k).2.2.1 = some (ty0 k)) ∧ (∀ a, a < N → ∀ b, b < N → a ≠ b → (T a).2.1 ≠ (T b).2.1) ∧ (T k).2.2.2 = false ∧ parseFieldDescriptor (T k).2.2.1 = some .int
theorem gl_get {index j ci k : Nat} {fs : List (Nat ⊕ Nat)} {x : Nat ⊕ Nat} (C : gl_C cc ws own rm ret lay V) (d : decode cc pc = .ok (.getfield index, 3)) (f : gl_fl ws own index ci k) (hj : lay[j]? = some (.inr (.inl (ci, fs)))) (hk : fs[k]? = some x)
    (h : gl_G lay ov M' V (pc + 3) L (gl_v V.1 M x :: st) M) : gl_G lay ov M' V pc L (.ref (gl_r V.1 j) :: st) M := by
  obtain ⟨F, p, e, R, s, m, args, below, meth, c, nL⟩ := V
  obtain ⟨hx, hb, hml, hown, hts, hK, hI, hok, hlk, hr, rfl⟩ := C
  intro H locs ls hP hS hl
  obtain ⟨Cl, T, N, ref, f1, f2, f3, f4, f5⟩ := f
  subst f5
  exact va_get (D := F.2.1) (ci := ci) (v := gl_v F M x) (C := Cl) (T := T) (N := N) hx hb hts f3 hown hK hP j (gl_w_at hj) f1 k f2 (hts _ f4) (fun _ h9 => h9) (by rw [List.getElem?_map, hk]; rfl) d (h H locs ls hP hS hl)
theorem gl_put {index j ci k i : Nat} {fs : List (Nat ⊕ Nat)} {x : Int32} (C : gl_C cc ws own rm ret lay V) (d : decode cc pc = .ok (.putfield index, 3)) (f : gl_fp ws own index ci k) (hj : lay[j]? = some (.inr (.inl (ci, fs)))) (hk : fs[k]? = some (.inl i))
    (h : gl_G lay ov M' V (pc + 3) L st (upd M i x)) : gl_G lay ov M' V pc L (.int x :: .ref (gl_r V.1 j) :: st) M := by
  obtain ⟨F, p, e, R, s, m, args, below, meth, c, nL⟩ := V
  obtain ⟨hx, hb, hml, hown, hts, hK, hI, hok, hlk, hr, rfl⟩ := C
  intro H locs ls hP hS hl
  obtain ⟨Cl, T, N, ref, ty0, f1, f2, f3, f4, f5, f6, f7, f8, f9⟩ := f
  subst f5
  exact va_put (D := F.2.1) (ci := ci) (v := .int x) (ty := .int) (C := Cl) (T := T) (N := N) hx hb hts f3 ty0 f6 f7 hown hK hP (gl_w_D hI) hS j (gl_w_at hj) f1 k f2 (hts _ f4) (fun _ h9 => h9) f8 f9 rfl rfl (by rw [List.length_map]; exact (List.getElem?_eq_some_iff.mp hk).1) d (fun H1 locs1 hP1 _ hS1 => h H1 locs1 ls (gl_set_fld hok hj hk x ▸ hP1) hS1 hl)
theorem gl_iald {j n : Nat} {f : Nat → Nat} {i : Int32} (k : Nat) (C : gl_C cc ws own rm ret lay V) (d : decode cc pc = .ok (.iaload, 1)) (hj : lay[j]? = some (.inl (n, f))) (hi : i = nI k) (hk : k < n)
    (h : gl_G lay ov M' V (pc + 1) L (.int (M (f k)) :: st) M) : gl_G lay ov M' V pc L (.int i :: .ref (gl_r V.1 j) :: st) M := by
  obtain ⟨F, p, e, R, s, m, args, below, meth, c, nL⟩ := V
  obtain ⟨hx, hb, hml, hown, hts, hK, hI, hok, hlk, hr, rfl⟩ := C
  intro H locs ls hP hS hl
  have hn : n < 2 ^ 31 := hok.2 j _ hj
  subst hi
  have h1 := nI_clamp (n := k) (by omega)
  refine va_iald (D := F.2.1) hx hb hK hP j 0 (gl_w_at hj) rfl (vp_in_nI hk hn) d ?_
  rw [h1, if_pos hk]
  exact h H locs ls hP hS hl
theorem gl_iast {j n : Nat} {f : Nat → Nat} {i x : Int32} (k : Nat) (C : gl_C cc ws own rm ret lay V) (d : decode cc pc = .ok (.iastore, 1)) (hj : lay[j]? = some (.inl (n, f))) (hi : i = nI k) (hk : k < n)
    (h : gl_G lay ov M' V (pc + 1) L st (upd M (f k) x)) : gl_G lay ov M' V pc L (.int x :: .int i :: .ref (gl_r V.1 j) :: st) M := by
  obtain ⟨F, p, e, R, s, m, args, below, meth, c, nL⟩ := V
  obtain ⟨hx, hb, hml, hown, hts, hK, hI, hok, hlk, hr, rfl⟩ := C
  intro H locs ls hP hS hl
  have hn : n < 2 ^ 31 := hok.2 j _ hj
  subst hi
  have h1 := nI_clamp (n := k) (by omega)
  refine va_iast (D := F.2.1) hx hb hK hP (gl_w_D hI) hS j 0 (gl_w_at hj) rfl (vp_in_nI hk hn) d (fun H1 locs1 hP1 _ hS1 => ?_)
  rw [h1] at hP1
  exact h H1 locs1 ls (gl_set_arr hok hj hk x ▸ hP1) hS1 hl
theorem gl_aald {j n : Nat} {g : Nat → Nat} {i : Int32} (k : Nat) (C : gl_C cc ws own rm ret lay V) (d : decode cc pc = .ok (.aaload, 1)) (hj : lay[j]? = some (.inr (.inr (n, g)))) (hi : i = nI k) (hk : k < n)
    (h : gl_G lay ov M' V (pc + 1) L (.ref (gl_r V.1 (g k)) :: st) M) : gl_G lay ov M' V pc L (.int i :: .ref (gl_r V.1 j) :: st) M := by
  obtain ⟨F, p, e, R, s, m, args, below, meth, c, nL⟩ := V
  obtain ⟨hx, hb, hml, hown, hts, hK, hI, hok, hlk, hr, rfl⟩ := C
  intro H locs ls hP hS hl
  have hn : n < 2 ^ 31 := hok.2 j _ hj
  subst hi
  have h1 := nI_clamp (n := k) (by omega)
  refine va_aldq (D := F.2.1) hx hb hK hP j 1 (gl_w_at hj) rfl (vp_in_nI hk hn) d ?_
  rw [h1]
  exact h H locs ls hP hS hl
theorem gl_iret {v w : Int32} (C : gl_C cc ws own rm (some .int) lay V) (d : decode cc pc = .ok (.ireturn, 1)) (hv : v = w) (hM : M = M') : gl_G lay (some (.int w)) M' V pc L [.int v] M := by
  obtain ⟨F, p, e, R, s, m, args, below, meth, c, nL⟩ := V
  obtain ⟨hx, hb, hml, hown, hts, hK, hI, hok, hlk, hr, rfl⟩ := C
  subst hv
  subst hM
  intro H locs ls hP hS hl
  exact W.iret hx hb hr (fun t ht hW => ⟨rfl, by rw [ht]; exact hP, hS.F ht⟩) hS.2.2 d hlk
/-- a boolean's end: 0 or 1 -/
theorem gl_zret {v w : Int32} (C : gl_C cc ws own rm (some .boolean) lay V) (d : decode cc pc = .ok (.ireturn, 1)) (hn : narrow .boolean (.int v) = .int v) (hv : v = w) (hM : M = M') : gl_G lay (some (.int w)) M' V pc L [.int v] M := by
  obtain ⟨F, p, e, R, s, m, args, below, meth, c, nL⟩ := V
  obtain ⟨hx, hb, hml, hown, hts, hK, hI, hok, hlk, hr, rfl⟩ := C
  subst hv
  subst hM
  intro H locs ls hP hS hl
  exact W.zret hx hb hr hn (fun t ht hW => ⟨rfl, by rw [ht]; exact hP, hS.F ht⟩) hS.2.2 d hlk
theorem gl_vret (C : gl_C cc ws own rm none lay V) (d : decode cc pc = .ok (.return_, 1)) (hM : M = M') : gl_G lay none M' V pc L [] M := by
  obtain ⟨F, p, e, R, s, m, args, below, meth, c, nL⟩ := V
  obtain ⟨hx, hb, hml, hown, hts, hK, hI, hok, hlk, hr, rfl⟩ := C
  subst hM
  intro H locs ls hP hS hl
  exact W.vret hx hb hr (fun t ht hW => ⟨rfl, by rw [ht]; exact hP, hS.F ht⟩) hS.2.2 d hlk
/-! calls -/
theorem gl_blind {F : gl_F} {av : List Value} : FrameBlind (gl_Pc F lay av M) := fun a U g mk q => ⟨q.1, q.2.1, va_K.moved (u := U) (U := U.calling g mk a) (Vm.Alike.refl U.vm) q.2.2.1, q.2.2.2⟩
theorem gl_goon {F : gl_F} {p : Program} {e : Env} {R : Room} {s : State} {m : MethodId} {args : Array Value} {below : List Frame} {meth : Method} {c : Code} {nL : Nat} {H : Heap} {locs : List Loc} {ls : Array Slot} {ov1 : Option Value} {a : Array Value} {st0 : List Value}
    (hr : va_Run p F.1 e R s m args below meth c H locs 0 0 0 0 (F0 m pc ls st0) rest (gl_Q F lay ov1 M1 a) (gl_A F lay)) (hS : va_S (gl_A F lay) s.heap H locs) (hl : gl_L nL ls L)
    (k : gl_G lay ov M' (F, p, e, R, s, m, args, below, meth, c, nL) (pc + 3) L (ov1.toList ++ rest) M1) : W p F.1 e R s m args below meth c H locs 0 0 (MQ below (gl_Q F lay ov M') args s 0 0 (gl_A F lay)) (F0 m pc ls st0) := by
  intro T hT X
  obtain ⟨v, st₀, t, T', L2, h0, X', hL, e1, e2, ⟨hv, hp, hz, hk⟩, st⟩ := hr T hT X
  cases hv
  rw [h0] at hz hk
  obtain ⟨t2, a1, b1⟩ := k T'.heap (locs ++ L2) ls (by rw [e1]; exact hp) ⟨Nat.le_trans hS.1 (by rw [e1]; exact hz), fun q h1 h2 => by rw [e1, hk q (Nat.lt_of_lt_of_le h1 hS.1) h2]; exact hS.2.1 q h1 h2, fun q hq => by
      rcases List.mem_append.mp hq with h | h
      · exact hS.2.2 q h
      · exact hL q h⟩ hl T' rfl X'
  exact ⟨t2, st t2 a1, b1⟩
def gl_hd (y : MethodName) (Cl : String) (n : Nat) : Prop := y.cls = Cl ∧ y.cls ≠ "java/lang/invoke/MethodHandle" ∧ y.cls ≠ "java/lang/invoke/VarHandle" ∧ (parseMethodDescriptor y.desc).map (fun d => d.parameters.length) = some n
theorem gl_callV {index j ci n maxL N : Nat} {T : u_T} {fs : List (Nat ⊕ Nat)} {Cl : String} {y : MethodName} {wsc wsc' : List Cond} {bytes : ByteArray} {retc : Option FieldType} {rmc : Room} {As : List Value} {ov1 : Option Value}
    (C : gl_C cc ws own rm ret lay V) (d : decode cc pc = .ok (.invokevirtual index, 3)) (g : GoodIn ws (wsV own index Cl y wsc)) (hw : wsc = Cond.code y bytes maxL retc :: wsc') (hd : gl_hd y Cl n)
    (hrm : rmc.cells = 0 ∧ rmc.slots = 0 ∧ rmc.frames + 1 ≤ rm.frames ∧ 8 + (maxL + 11) + rmc.locals ≤ rm.locals) (hn : As.length = n) (hrest : (rest.map fun v => v.category).sum ≤ 8) (hst : st = As.reverse ++ .ref (gl_r V.1 j) :: rest)
    (hj : lay[j]? = some (.inr (.inl (ci, fs)))) (hci : vwCl[ci]? = some (Cl, T, N)) (ct : gl_Ct V.1 lay y wsc rmc (.ref (gl_r V.1 j) :: As) M ov1 M1)
    (k : gl_G lay ov M' V (pc + 3) L (ov1.toList ++ rest) M1) : gl_G lay ov M' V pc L st M := by
  obtain ⟨F, p, e, R, s, m, args, below, meth, c, nL⟩ := V
  obtain ⟨hx, hb, hml, hown, hts, hK, hI, hok, hlk, hr, rfl⟩ := C
  intro H locs ls hP hS hl
  subst hst
  refine gl_goon (va_runV (As := As) (rest := rest) ⟨hx, hb, hml, hown, hts⟩ ct (cwV n hts g hw hrm.1 hrm.2.1 hd hrm.2.2) ⟨gl_blind, va_recv hK hP hci (gl_w_at hj), fun U hU hW => ⟨rfl, by rw [hU]; exact hP, va_K.moved hW.alike hK, hI⟩⟩ rfl hn hl.1 rfl (lv_room hrest) d ⟨Nat.zero_le _, Nat.zero_le _⟩) hS hl k
theorem gl_callS {index n maxL : Nat} {y : MethodName} {wsc wsc' : List Cond} {bytes : ByteArray} {retc : Option FieldType} {rmc : Room} {As : List Value} {ov1 : Option Value}
    (C : gl_C cc ws own rm ret lay V) (d : decode cc pc = .ok (.invokestatic index, 3)) (g : GoodIn ws (va_wsS own index y wsc)) (hw : wsc = Cond.code y bytes maxL retc :: wsc') (hd : gl_hd y y.cls n)
    (hrm : rmc.cells = 0 ∧ rmc.slots = 0 ∧ rmc.frames + 1 ≤ rm.frames ∧ 8 + (maxL + 11) + rmc.locals ≤ rm.locals) (hn : As.length = n) (hrest : (rest.map fun v => v.category).sum ≤ 8) (hst : st = As.reverse ++ rest)
    (ct : gl_Ct V.1 lay y wsc rmc As M ov1 M1)
    (k : gl_G lay ov M' V (pc + 3) L (ov1.toList ++ rest) M1) : gl_G lay ov M' V pc L st M := by
  obtain ⟨F, p, e, R, s, m, args, below, meth, c, nL⟩ := V
  obtain ⟨hx, hb, hml, hown, hts, hK, hI, hok, hlk, hr, rfl⟩ := C
  intro H locs ls hP hS hl
  subst hst
  refine gl_goon (va_runS (As := As) (rest := rest) ⟨hx, hb, hml, hown, hts⟩ ct (va_cwS n hts g hw hrm.1 hrm.2.1 hd.2 hrm.2.2) ⟨gl_blind, fun U hU hW => ⟨rfl, by rw [hU]; exact hP, va_K.moved hW.alike hK, hI⟩⟩ rfl hn hl.1 rfl (lv_room hrest) d ⟨Nat.zero_le _, Nat.zero_le _⟩) hS hl k
theorem gl_abs {index : Nat} {x : Int32} (C : gl_C cc ws own rm ret lay V) (d : decode cc pc = .ok (.invokestatic index, 3)) (h1 : Cond.methodLink own index Lib.Math.abs.name ∈ ws) (h2 : Cond.static Lib.Math.abs.name ∈ ws) (h3 : Cond.initialized "java/lang/Math" ∈ ws) (h4 : Cond.code Lib.Math.abs.name Lib.Math.abs.code 1 (some .int) ∈ ws)
    (hrm : 1 ≤ rm.frames ∧ (st.map fun v => v.category).sum + 13 ≤ rm.locals) (k : gl_G lay ov M' V (pc + 3) L (.int (if 0 ≤ x then x else 0 - x) :: st) M) : gl_G lay ov M' V pc L (.int x :: st) M := by
  obtain ⟨F, p, e, R, s, m, args, below, meth, c, nL⟩ := V
  obtain ⟨hx, hb, hml, hown, hts, hK, hI, hok, hlk, hr, rfl⟩ := C
  intro H locs ls hP hS hl
  exact va_mabs hx hb (by rw [hml]; exact hl.1.symm) hown (hts _ h1) (hts _ h2) (hts _ h3) (hts _ h4) hrm.1 hrm.2 (Nat.zero_le _) (Nat.zero_le _) d (k H locs ls hP hS hl)
theorem gl_min {index : Nat} {x y : Int32} (C : gl_C cc ws own rm ret lay V) (d : decode cc pc = .ok (.invokestatic index, 3)) (h1 : Cond.methodLink own index Lib.Math.min.name ∈ ws) (h2 : Cond.static Lib.Math.min.name ∈ ws) (h3 : Cond.initialized "java/lang/Math" ∈ ws) (h4 : Cond.code Lib.Math.min.name Lib.Math.min.code 2 (some .int) ∈ ws)
    (hrm : 1 ≤ rm.frames ∧ (st.map fun v => v.category).sum + 13 ≤ rm.locals) (k : gl_G lay ov M' V (pc + 3) L (.int (if y < x then y else x) :: st) M) : gl_G lay ov M' V pc L (.int y :: .int x :: st) M := by
  obtain ⟨F, p, e, R, s, m, args, below, meth, c, nL⟩ := V
  obtain ⟨hx, hb, hml, hown, hts, hK, hI, hok, hlk, hr, rfl⟩ := C
  intro H locs ls hP hS hl
  exact va_mmin hx hb (by rw [hml]; exact hl.1.symm) hown (hts _ h1) (hts _ h2) (hts _ h3) (hts _ h4) hrm.1 hrm.2 (Nat.zero_le _) (Nat.zero_le _) d (k H locs ls hP hS hl)
/-- one row of numbers whole into another one -/
theorem gl_copy {index j0 j1 n : Nat} {f0 f1 : Nat → Nat} (C : gl_C cc ws own rm ret lay V) (d : decode cc pc = .ok (.invokestatic index, 3)) (h1 : Cond.methodLink own index arraycopyName ∈ ws) (h2 : Cond.native arraycopyName ∈ ws) (h3 : Cond.static arraycopyName ∈ ws) (h4 : Cond.initialized "java/lang/System" ∈ ws)
    (hrm : 1 ≤ rm.frames ∧ (st.map fun v => v.category).sum + (nativeFrameWords "java/lang/System" "arraycopy" 5 + 11) ≤ rm.locals)
    (hj0 : lay[j0]? = some (.inl (n, f0))) (hj1 : lay[j1]? = some (.inl (n, f1))) (M1 : Nat → Int32) (g1 : ∀ k, k < n → M1 (f1 k) = M (f0 k)) (g2 : ∀ (j : Nat) (c : gl_Ce) (k i : Nat), lay[j]? = some c → j ≠ j1 → gl_at c k = some i → M1 i = M i)
    (k : gl_G lay ov M' V (pc + 3) L st M1) : gl_G lay ov M' V pc L (.int (nI n) :: .int (nI 0) :: .ref (gl_r V.1 j1) :: .int (nI 0) :: .ref (gl_r V.1 j0) :: st) M := by
  obtain ⟨F, p, e, R, s, m, args, below, meth, c, nL⟩ := V
  obtain ⟨hx, hb, hml, hown, hts, hK, hI, hok, hlk, hr, rfl⟩ := C
  intro H locs ls hP hS hl
  have hn : n < 2 ^ 31 := hok.2 j0 _ hj0
  have e0 : (nI 0).toNatClampNeg = 0 := nI_clamp (by omega)
  have en : (nI n).toNatClampNeg = n := nI_clamp hn
  refine va_copyi (D := F.2.1) (ty := .int) hx hb (by rw [hml]; exact hl.1.symm) hown (hts _ h1) (hts _ h2) (hts _ h3) (hts _ h4) hK hP (gl_w_D hI) hS j0 j1 0 0 (gl_w_at hj0) (gl_w_at hj1) rfl rfl rfl (nI_pos (by omega)) (nI_pos (by omega)) (nI_pos hn) (by rw [e0, en]; omega) (by rw [e0, en]; omega) (fun _ _ => rfl) hrm.1 hrm.2 d (fun H1 locs1 hP1 _ hS1 => ?_)
  refine k H1 locs1 ls ?_ hS1 hl
  rw [e0, en] at hP1
  have e : (gl_w F lay M).set j1 (gl_r F j1, .inl (F.2.2.1, n, .inl (va_cpy (fun i => if i < n then M (f0 i) else 0) (fun i => if i < n then M (f1 i) else 0) 0 0 n))) = gl_w F lay M1 := by
    apply List.ext_getElem?
    intro j'
    by_cases hjj : j' = j1
    · subst hjj
      rw [List.getElem?_set_self (by rw [gl_w_len]; exact (List.getElem?_eq_some_iff.mp hj1).1), gl_w_at hj1]
      have e : va_cpy (fun i => if i < n then M (f0 i) else 0) (fun i => if i < n then M (f1 i) else 0) 0 0 n = (fun i => if i < n then M1 (f1 i) else 0) := by
        funext i
        unfold va_cpy
        by_cases hi : i < n
        · rw [if_pos ⟨Nat.zero_le _, by omega⟩]
          show (if 0 + (i - 0) < n then M (f0 (0 + (i - 0))) else 0) = _
          rw [Nat.zero_add, Nat.sub_zero, if_pos hi, if_pos hi, g1 i hi]
        · rw [if_neg (by omega)]
          show (if i < n then M (f1 i) else 0) = _
          rw [if_neg hi, if_neg hi]
      simp only [gl_e, e]
    · rw [List.getElem?_set_ne (Ne.symm hjj)]
      cases hc : lay[j']? with
      | none =>
        rw [List.getElem?_eq_none (by rw [gl_w_len]; exact List.getElem?_eq_none_iff.mp hc), List.getElem?_eq_none (by rw [gl_w_len]; exact List.getElem?_eq_none_iff.mp hc)]
      | some c =>
        rw [gl_w_at hc, gl_w_at hc, gl_e_upd (c := c) (M := M) (M' := M1)]
        intro k' i' hi
        exact g2 j' c k' i' hc hjj hi
  exact e ▸ hP1
end GLR
end
