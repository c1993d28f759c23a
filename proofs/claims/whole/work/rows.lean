section
-- ===== PART A: goes FIRST, ahead of the names: the tables' words, and 'selects' of the private methods out of them =====
/-- a private method of a class that the tables say can be made, by its rows of tables_1 -/
def lw_okq (q : MethodName × Nat) : Prop := (q.1.cls ≠ "java/lang/invoke/MethodHandle" ∧ q.1.cls ≠ "java/lang/invoke/VarHandle") ∧ Cond.instantiable q.1.cls q.2 ∈ tables_1 ∧ Cond.privateMethod q.1 ∈ tables_1 ∧ Cond.instanceMethod q.1 ∈ tables_1
theorem lw_p0 : lw_okq (⟨"GoalLifts", "allThereInWithout", "(I)I"⟩, 3) := ⟨⟨by decide +kernel, by decide +kernel⟩, List.mem_of_getElem? (i := 11) (by decide +kernel), List.mem_of_getElem? (i := 429) (by decide +kernel), List.mem_of_getElem? (i := 430) (by decide +kernel)⟩
theorem lw_p1 : lw_okq (⟨"GoalLiftsModel", "acts", "()V"⟩, 5) := ⟨⟨by decide +kernel, by decide +kernel⟩, List.mem_of_getElem? (i := 433) (by decide +kernel), List.mem_of_getElem? (i := 462) (by decide +kernel), List.mem_of_getElem? (i := 463) (by decide +kernel)⟩
theorem lw_p2 : lw_okq (⟨"GoalLiftsModel", "putsCar", "(III)V"⟩, 5) := ⟨⟨by decide +kernel, by decide +kernel⟩, List.mem_of_getElem? (i := 433) (by decide +kernel), List.mem_of_getElem? (i := 466) (by decide +kernel), List.mem_of_getElem? (i := 467) (by decide +kernel)⟩
theorem lw_p3 : lw_okq (⟨"GoalLiftsModel", "isCar", "(I)Z"⟩, 5) := ⟨⟨by decide +kernel, by decide +kernel⟩, List.mem_of_getElem? (i := 433) (by decide +kernel), List.mem_of_getElem? (i := 478) (by decide +kernel), List.mem_of_getElem? (i := 479) (by decide +kernel)⟩
theorem lw_p4 : lw_okq (⟨"GoalLiftsModel", "ofCar", "(II)I"⟩, 5) := ⟨⟨by decide +kernel, by decide +kernel⟩, List.mem_of_getElem? (i := 433) (by decide +kernel), List.mem_of_getElem? (i := 482) (by decide +kernel), List.mem_of_getElem? (i := 483) (by decide +kernel)⟩
theorem lw_p5 : lw_okq (⟨"GoalLiftsModel", "many", "(II)I"⟩, 5) := ⟨⟨by decide +kernel, by decide +kernel⟩, List.mem_of_getElem? (i := 433) (by decide +kernel), List.mem_of_getElem? (i := 486) (by decide +kernel), List.mem_of_getElem? (i := 487) (by decide +kernel)⟩
theorem lw_p6 : lw_okq (⟨"GoalLiftsModel", "ofCaller", "(II)I"⟩, 5) := ⟨⟨by decide +kernel, by decide +kernel⟩, List.mem_of_getElem? (i := 433) (by decide +kernel), List.mem_of_getElem? (i := 490) (by decide +kernel), List.mem_of_getElem? (i := 491) (by decide +kernel)⟩
theorem lw_p7 : lw_okq (⟨"GoalLiftsModel", "fails", "(I)V"⟩, 5) := ⟨⟨by decide +kernel, by decide +kernel⟩, List.mem_of_getElem? (i := 433) (by decide +kernel), List.mem_of_getElem? (i := 498) (by decide +kernel), List.mem_of_getElem? (i := 499) (by decide +kernel)⟩
theorem lw_p8 : lw_okq (⟨"GoalLiftsModel", "isOut", "(II)Z"⟩, 5) := ⟨⟨by decide +kernel, by decide +kernel⟩, List.mem_of_getElem? (i := 433) (by decide +kernel), List.mem_of_getElem? (i := 502) (by decide +kernel), List.mem_of_getElem? (i := 503) (by decide +kernel)⟩
theorem lw_p9 : lw_okq (⟨"GoalLiftsModel", "puts", "(III)V"⟩, 5) := ⟨⟨by decide +kernel, by decide +kernel⟩, List.mem_of_getElem? (i := 433) (by decide +kernel), List.mem_of_getElem? (i := 506) (by decide +kernel), List.mem_of_getElem? (i := 507) (by decide +kernel)⟩
theorem lw_p10 : lw_okq (⟨"GoalLiftsModel", "inAll", "(I)I"⟩, 5) := ⟨⟨by decide +kernel, by decide +kernel⟩, List.mem_of_getElem? (i := 433) (by decide +kernel), List.mem_of_getElem? (i := 510) (by decide +kernel), List.mem_of_getElem? (i := 511) (by decide +kernel)⟩
theorem lw_p11 : lw_okq (⟨"GoalLiftsModel", "gives", "(I)V"⟩, 5) := ⟨⟨by decide +kernel, by decide +kernel⟩, List.mem_of_getElem? (i := 433) (by decide +kernel), List.mem_of_getElem? (i := 528) (by decide +kernel), List.mem_of_getElem? (i := 529) (by decide +kernel)⟩
theorem lw_p12 : lw_okq (⟨"GoalLiftsModel", "best", "(II)I"⟩, 5) := ⟨⟨by decide +kernel, by decide +kernel⟩, List.mem_of_getElem? (i := 433) (by decide +kernel), List.mem_of_getElem? (i := 532) (by decide +kernel), List.mem_of_getElem? (i := 533) (by decide +kernel)⟩
theorem lw_p13 : lw_okq (⟨"GoalLiftsModel", "canBeGiven", "(III)Z"⟩, 5) := ⟨⟨by decide +kernel, by decide +kernel⟩, List.mem_of_getElem? (i := 433) (by decide +kernel), List.mem_of_getElem? (i := 536) (by decide +kernel), List.mem_of_getElem? (i := 537) (by decide +kernel)⟩
theorem lw_p14 : lw_okq (⟨"GoalLiftsModel", "isAwake", "(I)Z"⟩, 5) := ⟨⟨by decide +kernel, by decide +kernel⟩, List.mem_of_getElem? (i := 433) (by decide +kernel), List.mem_of_getElem? (i := 540) (by decide +kernel), List.mem_of_getElem? (i := 541) (by decide +kernel)⟩
theorem lw_p15 : lw_okq (⟨"GoalLiftsModel", "hour", "()I"⟩, 5) := ⟨⟨by decide +kernel, by decide +kernel⟩, List.mem_of_getElem? (i := 433) (by decide +kernel), List.mem_of_getElem? (i := 544) (by decide +kernel), List.mem_of_getElem? (i := 545) (by decide +kernel)⟩
def lw_privs_1 : List (MethodName × Nat) := [(⟨"GoalLifts", "allThereInWithout", "(I)I"⟩, 3), (⟨"GoalLiftsModel", "acts", "()V"⟩, 5), (⟨"GoalLiftsModel", "putsCar", "(III)V"⟩, 5), (⟨"GoalLiftsModel", "isCar", "(I)Z"⟩, 5), (⟨"GoalLiftsModel", "ofCar", "(II)I"⟩, 5), (⟨"GoalLiftsModel", "many", "(II)I"⟩, 5), (⟨"GoalLiftsModel", "ofCaller", "(II)I"⟩, 5), (⟨"GoalLiftsModel", "fails", "(I)V"⟩, 5), (⟨"GoalLiftsModel", "isOut", "(II)Z"⟩, 5), (⟨"GoalLiftsModel", "puts", "(III)V"⟩, 5), (⟨"GoalLiftsModel", "inAll", "(I)I"⟩, 5), (⟨"GoalLiftsModel", "gives", "(I)V"⟩, 5), (⟨"GoalLiftsModel", "best", "(II)I"⟩, 5), (⟨"GoalLiftsModel", "canBeGiven", "(III)Z"⟩, 5), (⟨"GoalLiftsModel", "isAwake", "(I)Z"⟩, 5), (⟨"GoalLiftsModel", "hour", "()I"⟩, 5)]
theorem lw_r1 : ∀ q ∈ lw_privs_1, lw_okq q := List.forall_mem_cons.mpr ⟨lw_p0, List.forall_mem_cons.mpr ⟨lw_p1, List.forall_mem_cons.mpr ⟨lw_p2, List.forall_mem_cons.mpr ⟨lw_p3, List.forall_mem_cons.mpr ⟨lw_p4, List.forall_mem_cons.mpr ⟨lw_p5, List.forall_mem_cons.mpr ⟨lw_p6, List.forall_mem_cons.mpr ⟨lw_p7, List.forall_mem_cons.mpr ⟨lw_p8, List.forall_mem_cons.mpr ⟨lw_p9, List.forall_mem_cons.mpr ⟨lw_p10, List.forall_mem_cons.mpr ⟨lw_p11, List.forall_mem_cons.mpr ⟨lw_p12, List.forall_mem_cons.mpr ⟨lw_p13, List.forall_mem_cons.mpr ⟨lw_p14, List.forall_mem_cons.mpr ⟨lw_p15, fun _ h => absurd h List.not_mem_nil⟩⟩⟩⟩⟩⟩⟩⟩⟩⟩⟩⟩⟩⟩⟩⟩
theorem lw_p16 : lw_okq (⟨"GoalLiftsModel", "costOf", "(III)I"⟩, 5) := ⟨⟨by decide +kernel, by decide +kernel⟩, List.mem_of_getElem? (i := 433) (by decide +kernel), List.mem_of_getElem? (i := 548) (by decide +kernel), List.mem_of_getElem? (i := 549) (by decide +kernel)⟩
theorem lw_p17 : lw_okq (⟨"GoalLiftsModel", "stops", "(I)I"⟩, 5) := ⟨⟨by decide +kernel, by decide +kernel⟩, List.mem_of_getElem? (i := 433) (by decide +kernel), List.mem_of_getElem? (i := 552) (by decide +kernel), List.mem_of_getElem? (i := 553) (by decide +kernel)⟩
theorem lw_p18 : lw_okq (⟨"GoalLiftsModel", "ticks", "()V"⟩, 5) := ⟨⟨by decide +kernel, by decide +kernel⟩, List.mem_of_getElem? (i := 433) (by decide +kernel), List.mem_of_getElem? (i := 566) (by decide +kernel), List.mem_of_getElem? (i := 567) (by decide +kernel)⟩
theorem lw_p19 : lw_okq (⟨"GoalLiftsModel", "aim", "(I)I"⟩, 5) := ⟨⟨by decide +kernel, by decide +kernel⟩, List.mem_of_getElem? (i := 433) (by decide +kernel), List.mem_of_getElem? (i := 570) (by decide +kernel), List.mem_of_getElem? (i := 571) (by decide +kernel)⟩
theorem lw_p20 : lw_okq (⟨"GoalLiftsModel", "isStop", "(I)Z"⟩, 5) := ⟨⟨by decide +kernel, by decide +kernel⟩, List.mem_of_getElem? (i := 433) (by decide +kernel), List.mem_of_getElem? (i := 574) (by decide +kernel), List.mem_of_getElem? (i := 575) (by decide +kernel)⟩
theorem lw_p21 : lw_okq (⟨"GoalLiftsModel", "isTaken", "(II)Z"⟩, 5) := ⟨⟨by decide +kernel, by decide +kernel⟩, List.mem_of_getElem? (i := 433) (by decide +kernel), List.mem_of_getElem? (i := 578) (by decide +kernel), List.mem_of_getElem? (i := 579) (by decide +kernel)⟩
theorem lw_p22 : lw_okq (⟨"GoalLiftsModel", "stopsNow", "(I)V"⟩, 5) := ⟨⟨by decide +kernel, by decide +kernel⟩, List.mem_of_getElem? (i := 433) (by decide +kernel), List.mem_of_getElem? (i := 582) (by decide +kernel), List.mem_of_getElem? (i := 583) (by decide +kernel)⟩
theorem lw_p23 : lw_okq (⟨"GoalLiftsModel", "groups", "()I"⟩, 5) := ⟨⟨by decide +kernel, by decide +kernel⟩, List.mem_of_getElem? (i := 433) (by decide +kernel), List.mem_of_getElem? (i := 594) (by decide +kernel), List.mem_of_getElem? (i := 595) (by decide +kernel)⟩
theorem lw_p24 : lw_okq (⟨"GoalLiftsModel", "isFirst", "(I)Z"⟩, 5) := ⟨⟨by decide +kernel, by decide +kernel⟩, List.mem_of_getElem? (i := 433) (by decide +kernel), List.mem_of_getElem? (i := 598) (by decide +kernel), List.mem_of_getElem? (i := 599) (by decide +kernel)⟩
theorem lw_p25 : lw_okq (⟨"GoalLiftsModel", "isOpen", "(I)Z"⟩, 5) := ⟨⟨by decide +kernel, by decide +kernel⟩, List.mem_of_getElem? (i := 433) (by decide +kernel), List.mem_of_getElem? (i := 602) (by decide +kernel), List.mem_of_getElem? (i := 603) (by decide +kernel)⟩
theorem lw_p26 : lw_okq (⟨"GoalLiftsModel", "areOne", "(II)Z"⟩, 5) := ⟨⟨by decide +kernel, by decide +kernel⟩, List.mem_of_getElem? (i := 433) (by decide +kernel), List.mem_of_getElem? (i := 606) (by decide +kernel), List.mem_of_getElem? (i := 607) (by decide +kernel)⟩
theorem lw_p27 : lw_okq (⟨"GoalLiftsModel", "sumOfCars", "(II)I"⟩, 5) := ⟨⟨by decide +kernel, by decide +kernel⟩, List.mem_of_getElem? (i := 433) (by decide +kernel), List.mem_of_getElem? (i := 610) (by decide +kernel), List.mem_of_getElem? (i := 611) (by decide +kernel)⟩
theorem lw_p28 : lw_okq (⟨"GoalLiftsModel", "isCaller", "(I)Z"⟩, 5) := ⟨⟨by decide +kernel, by decide +kernel⟩, List.mem_of_getElem? (i := 433) (by decide +kernel), List.mem_of_getElem? (i := 622) (by decide +kernel), List.mem_of_getElem? (i := 623) (by decide +kernel)⟩
theorem lw_p29 : lw_okq (⟨"GoalLiftsModel", "waited", "(I)I"⟩, 5) := ⟨⟨by decide +kernel, by decide +kernel⟩, List.mem_of_getElem? (i := 433) (by decide +kernel), List.mem_of_getElem? (i := 649) (by decide +kernel), List.mem_of_getElem? (i := 650) (by decide +kernel)⟩
theorem lw_p30 : lw_okq (⟨"GoalLiftsModel", "allThere", "()I"⟩, 5) := ⟨⟨by decide +kernel, by decide +kernel⟩, List.mem_of_getElem? (i := 433) (by decide +kernel), List.mem_of_getElem? (i := 657) (by decide +kernel), List.mem_of_getElem? (i := 658) (by decide +kernel)⟩
def lw_privs_2 : List (MethodName × Nat) := [(⟨"GoalLiftsModel", "costOf", "(III)I"⟩, 5), (⟨"GoalLiftsModel", "stops", "(I)I"⟩, 5), (⟨"GoalLiftsModel", "ticks", "()V"⟩, 5), (⟨"GoalLiftsModel", "aim", "(I)I"⟩, 5), (⟨"GoalLiftsModel", "isStop", "(I)Z"⟩, 5), (⟨"GoalLiftsModel", "isTaken", "(II)Z"⟩, 5), (⟨"GoalLiftsModel", "stopsNow", "(I)V"⟩, 5), (⟨"GoalLiftsModel", "groups", "()I"⟩, 5), (⟨"GoalLiftsModel", "isFirst", "(I)Z"⟩, 5), (⟨"GoalLiftsModel", "isOpen", "(I)Z"⟩, 5), (⟨"GoalLiftsModel", "areOne", "(II)Z"⟩, 5), (⟨"GoalLiftsModel", "sumOfCars", "(II)I"⟩, 5), (⟨"GoalLiftsModel", "isCaller", "(I)Z"⟩, 5), (⟨"GoalLiftsModel", "waited", "(I)I"⟩, 5), (⟨"GoalLiftsModel", "allThere", "()I"⟩, 5)]
theorem lw_r2 : ∀ q ∈ lw_privs_2, lw_okq q := List.forall_mem_cons.mpr ⟨lw_p16, List.forall_mem_cons.mpr ⟨lw_p17, List.forall_mem_cons.mpr ⟨lw_p18, List.forall_mem_cons.mpr ⟨lw_p19, List.forall_mem_cons.mpr ⟨lw_p20, List.forall_mem_cons.mpr ⟨lw_p21, List.forall_mem_cons.mpr ⟨lw_p22, List.forall_mem_cons.mpr ⟨lw_p23, List.forall_mem_cons.mpr ⟨lw_p24, List.forall_mem_cons.mpr ⟨lw_p25, List.forall_mem_cons.mpr ⟨lw_p26, List.forall_mem_cons.mpr ⟨lw_p27, List.forall_mem_cons.mpr ⟨lw_p28, List.forall_mem_cons.mpr ⟨lw_p29, List.forall_mem_cons.mpr ⟨lw_p30, fun _ h => absurd h List.not_mem_nil⟩⟩⟩⟩⟩⟩⟩⟩⟩⟩⟩⟩⟩⟩⟩
def lw_privs : List (MethodName × Nat) := lw_privs_1 ++ (lw_privs_2)
def lw_tbl : List Cond := k2_sels lw_privs ++ tables_1
theorem lw_privs_ok : ∀ q ∈ lw_privs, lw_okq q := by
  show ∀ q ∈ lw_privs_1 ++ (lw_privs_2), lw_okq q
  exact List.forall_mem_append.mpr ⟨lw_r1, lw_r2⟩
-- ===== end of PART A; then your names; then what follows =====
end
section
/-! ===== BEGIN words of one list among another's, by their places ===== -/
theorem goodIn_r {big : List Cond} (ws : List Cond) (ps : List Nat) (hp : ws = ps.filterMap (fun i => big[i]?)) (h : ws.all goodWord = true) : GoodIn big ws := by
  intro w hw
  have h1 := List.all_eq_true.mp h w hw
  rw [hp] at hw
  obtain ⟨i, -, hi⟩ := List.mem_filterMap.mp hw
  have hm : w ∈ big := by first | exact List.mem_of_getElem? hi | exact List.getElem?_mem hi
  exact ⟨hm, good_of_word h1⟩
theorem goodIn_app {big a b : List Cond} (ha : GoodIn big a) (hb : GoodIn big b) : GoodIn big (a ++ b) := fun w h => (List.mem_append.mp h).elim (ha w) (hb w)
theorem goodIn_ca {big a b : List Cond} {c : Cond} (ha : GoodIn big (c :: a)) (hb : GoodIn big b) : GoodIn big (c :: (a ++ b)) := fun w h => (List.mem_cons.mp h).elim (fun e => ha w (List.mem_cons.mpr (Or.inl e))) (fun h => (List.mem_append.mp h).elim (fun h => ha w (List.mem_cons.mpr (Or.inr h))) (hb w))
theorem goodIn_sub {big ws : List Cond} (hm : ∀ w ∈ ws, w ∈ big) (h : ws.all goodWord = true) : GoodIn big ws := fun w hw => ⟨hm w hw, good_of_word (List.all_eq_true.mp h w hw)⟩
/-! ===== END ===== -/

/-! ===== BEGIN printed: names, fields, word lists, decode rows ===== -/
def RX0 : String := "GoalLifts$Callers"
def TX0 : u_T := fun k => match k with
  | 0 => ("GoalLifts$Callers", "count", "I", false)
  | 1 => ("GoalLifts$Callers", "floor", "[I", true)
  | 2 => ("GoalLifts$Callers", "goal", "[I", true)
  | 3 => ("GoalLifts$Callers", "phase", "[I", true)
  | 4 => ("GoalLifts$Callers", "given", "[I", true)
  | 5 => ("GoalLifts$Callers", "calledAt", "[I", true)
  | 6 => ("GoalLifts$Callers", "rodeAt", "[I", true)
  | 7 => ("GoalLifts$Callers", "thereAt", "[I", true)
  | _ => ("GoalLifts$Callers", "timesGiven", "[I", true)
def tyX0 : Nat → FieldType := fun k => match k with
  | 0 => .int
  | 1 => .array .int
  | 2 => .array .int
  | 3 => .array .int
  | 4 => .array .int
  | 5 => .array .int
  | 6 => .array .int
  | 7 => .array .int
  | _ => .array .int
abbrev wsX00 : List Cond := u_ws RX0 TX0 9
theorem nmX0 : ∀ a, a < 9 → ∀ b, b < 9 → a ≠ b → (TX0 a).2.1 ≠ (TX0 b).2.1 := by decide +kernel
theorem tyX0_ok : ∀ k, k < 9 → parseFieldDescriptor (TX0 k).2.2.1 = some (tyX0 k) := by decide +kernel
abbrev cX0_init : ByteArray := prog_2_method_1_code
def yX0_init : MethodName := ⟨RX0, "<init>", "()V"⟩
abbrev cX0_copyFrom : ByteArray := prog_2_method_2_code
def yX0_copyFrom : MethodName := ⟨RX0, "copyFrom", "(LGoalLifts$Callers;)V"⟩
abbrev cX0_has : ByteArray := prog_2_method_3_code
def yX0_has : MethodName := ⟨RX0, "has", "(I)Z"⟩
abbrev cX0_add : ByteArray := prog_2_method_4_code
def yX0_add : MethodName := ⟨RX0, "add", "(III)I"⟩
abbrev cX0_give : ByteArray := prog_2_method_5_code
def yX0_give : MethodName := ⟨RX0, "give", "(II)V"⟩
abbrev cX0_rides : ByteArray := prog_2_method_6_code
def yX0_rides : MethodName := ⟨RX0, "rides", "(II)Z"⟩
abbrev cX0_waitsFor : ByteArray := prog_2_method_7_code
def yX0_waitsFor : MethodName := ⟨RX0, "waitsFor", "(II)Z"⟩
abbrev cX0_numberIn : ByteArray := prog_2_method_8_code
def yX0_numberIn : MethodName := ⟨RX0, "numberIn", "(I)I"⟩
abbrev cX0_numberOf : ByteArray := prog_2_method_9_code
def yX0_numberOf : MethodName := ⟨RX0, "numberOf", "(II)I"⟩
abbrev cX0_numberWith : ByteArray := prog_2_method_10_code
def yX0_numberWith : MethodName := ⟨RX0, "numberWith", "(I)I"⟩
abbrev cX0_stopsOf : ByteArray := prog_2_method_11_code
def yX0_stopsOf : MethodName := ⟨RX0, "stopsOf", "(I)I"⟩
abbrev cX0_aimOf : ByteArray := prog_2_method_12_code
def yX0_aimOf : MethodName := ⟨RX0, "aimOf", "(II)I"⟩
abbrev cX0_isNearer : ByteArray := prog_2_method_13_code
def yX0_isNearer : MethodName := ⟨RX0, "isNearer", "(III)Z"⟩
abbrev cX0_letOut : ByteArray := prog_2_method_14_code
def yX0_letOut : MethodName := ⟨RX0, "letOut", "(III)I"⟩
abbrev cX0_takeIn : ByteArray := prog_2_method_15_code
def yX0_takeIn : MethodName := ⟨RX0, "takeIn", "(IIII)I"⟩
abbrev cX0_loseCar : ByteArray := prog_2_method_16_code
def yX0_loseCar : MethodName := ⟨RX0, "loseCar", "(III)V"⟩
abbrev cX0_waitOf : ByteArray := prog_2_method_17_code
def yX0_waitOf : MethodName := ⟨RX0, "waitOf", "(II)I"⟩
abbrev cX0_isInGroup : ByteArray := prog_2_method_18_code
def yX0_isInGroup : MethodName := ⟨RX0, "isInGroup", "(I)Z"⟩
abbrev cX0_sameGroup : ByteArray := prog_2_method_19_code
def yX0_sameGroup : MethodName := ⟨RX0, "sameGroup", "(II)Z"⟩
abbrev cX0_isFirstOfGroup : ByteArray := prog_2_method_20_code
def yX0_isFirstOfGroup : MethodName := ⟨RX0, "isFirstOfGroup", "(I)Z"⟩
abbrev cX0_numberOfGroups : ByteArray := prog_2_method_21_code
def yX0_numberOfGroups : MethodName := ⟨RX0, "numberOfGroups", "()I"⟩
abbrev cX0_firstOfGroup : ByteArray := prog_2_method_22_code
def yX0_firstOfGroup : MethodName := ⟨RX0, "firstOfGroup", "(I)I"⟩
abbrev cX0_sizeOfGroup : ByteArray := prog_2_method_23_code
def yX0_sizeOfGroup : MethodName := ⟨RX0, "sizeOfGroup", "(I)I"⟩
def RX1 : String := "GoalLifts$Cars"
def TX1 : u_T := fun k => match k with
  | 0 => ("GoalLifts$Cars", "count", "I", false)
  | 1 => ("GoalLifts$Cars", "stopsMade", "I", false)
  | 2 => ("GoalLifts$Cars", "lowest", "[I", true)
  | 3 => ("GoalLifts$Cars", "highest", "[I", true)
  | 4 => ("GoalLifts$Cars", "places", "[I", true)
  | 5 => ("GoalLifts$Cars", "floor", "[I", true)
  | 6 => ("GoalLifts$Cars", "state", "[I", true)
  | _ => ("GoalLifts$Cars", "travelled", "[I", true)
def tyX1 : Nat → FieldType := fun k => match k with
  | 0 => .int
  | 1 => .int
  | 2 => .array .int
  | 3 => .array .int
  | 4 => .array .int
  | 5 => .array .int
  | 6 => .array .int
  | _ => .array .int
abbrev wsX10 : List Cond := u_ws RX1 TX1 8
theorem nmX1 : ∀ a, a < 8 → ∀ b, b < 8 → a ≠ b → (TX1 a).2.1 ≠ (TX1 b).2.1 := by decide +kernel
theorem tyX1_ok : ∀ k, k < 8 → parseFieldDescriptor (TX1 k).2.2.1 = some (tyX1 k) := by decide +kernel
abbrev cX1_init : ByteArray := prog_3_method_1_code
def yX1_init : MethodName := ⟨RX1, "<init>", "()V"⟩
abbrev cX1_copyFrom : ByteArray := prog_3_method_2_code
def yX1_copyFrom : MethodName := ⟨RX1, "copyFrom", "(LGoalLifts$Cars;)V"⟩
abbrev cX1_has : ByteArray := prog_3_method_3_code
def yX1_has : MethodName := ⟨RX1, "has", "(I)Z"⟩
abbrev cX1_add : ByteArray := prog_3_method_4_code
def yX1_add : MethodName := ⟨RX1, "add", "(III)I"⟩
abbrev cX1_serves : ByteArray := prog_3_method_5_code
def yX1_serves : MethodName := ⟨RX1, "serves", "(II)Z"⟩
abbrev cX1_travelTowards : ByteArray := prog_3_method_6_code
def yX1_travelTowards : MethodName := ⟨RX1, "travelTowards", "(II)V"⟩
abbrev cX1_numberIn : ByteArray := prog_3_method_7_code
def yX1_numberIn : MethodName := ⟨RX1, "numberIn", "(I)I"⟩
abbrev cX1_travelledByAll : ByteArray := prog_3_method_8_code
def yX1_travelledByAll : MethodName := ⟨RX1, "travelledByAll", "()I"⟩
def RX2 : String := "GoalLifts$History"
def TX2 : u_T := fun k => match k with
  | 0 => ("GoalLifts$History", "count", "I", false)
  | 1 => ("GoalLifts$History", "next", "I", false)
  | _ => ("GoalLifts$History", "states", "[LGoalLifts$House;", true)
def tyX2 : Nat → FieldType := fun k => match k with
  | 0 => .int
  | 1 => .int
  | _ => .array (.object "GoalLifts$House")
abbrev wsX20 : List Cond := u_ws RX2 TX2 3
theorem nmX2 : ∀ a, a < 3 → ∀ b, b < 3 → a ≠ b → (TX2 a).2.1 ≠ (TX2 b).2.1 := by decide +kernel
theorem tyX2_ok : ∀ k, k < 3 → parseFieldDescriptor (TX2 k).2.2.1 = some (tyX2 k) := by decide +kernel
abbrev cX2_init : ByteArray := prog_4_method_1_code
def yX2_init : MethodName := ⟨RX2, "<init>", "()V"⟩
abbrev cX2_keep : ByteArray := prog_4_method_2_code
def yX2_keep : MethodName := ⟨RX2, "keep", "(LGoalLifts$House;)V"⟩
abbrev cX2_restore : ByteArray := prog_4_method_3_code
def yX2_restore : MethodName := ⟨RX2, "restore", "(LGoalLifts$House;)V"⟩
def RX3 : String := "GoalLifts$House"
def TX3 : u_T := fun k => match k with
  | 0 => ("GoalLifts$House", "tick", "I", false)
  | 1 => ("GoalLifts$House", "awake", "[I", true)
  | 2 => ("GoalLifts$House", "cars", "LGoalLifts$Cars;", true)
  | _ => ("GoalLifts$House", "callers", "LGoalLifts$Callers;", true)
def tyX3 : Nat → FieldType := fun k => match k with
  | 0 => .int
  | 1 => .array .int
  | 2 => .object "GoalLifts$Cars"
  | _ => .object "GoalLifts$Callers"
abbrev wsX30 : List Cond := u_ws RX3 TX3 4
theorem nmX3 : ∀ a, a < 4 → ∀ b, b < 4 → a ≠ b → (TX3 a).2.1 ≠ (TX3 b).2.1 := by decide +kernel
theorem tyX3_ok : ∀ k, k < 4 → parseFieldDescriptor (TX3 k).2.2.1 = some (tyX3 k) := by decide +kernel
abbrev cX3_init : ByteArray := prog_5_method_1_code
def yX3_init : MethodName := ⟨RX3, "<init>", "()V"⟩
abbrev cX3_copyFrom : ByteArray := prog_5_method_2_code
def yX3_copyFrom : MethodName := ⟨RX3, "copyFrom", "(LGoalLifts$House;)V"⟩
abbrev cX3_hour : ByteArray := prog_5_method_3_code
def yX3_hour : MethodName := ⟨RX3, "hour", "()I"⟩
abbrev cX3_isAwake : ByteArray := prog_5_method_4_code
def yX3_isAwake : MethodName := ⟨RX3, "isAwake", "(I)Z"⟩
abbrev cX3_canBeGiven : ByteArray := prog_5_method_5_code
def yX3_canBeGiven : MethodName := ⟨RX3, "canBeGiven", "(III)Z"⟩
abbrev cX3_costOf : ByteArray := prog_5_method_6_code
def yX3_costOf : MethodName := ⟨RX3, "costOf", "(III)I"⟩
abbrev cX3_bestCar : ByteArray := prog_5_method_7_code
def yX3_bestCar : MethodName := ⟨RX3, "bestCar", "(II)I"⟩
abbrev cX3_oneTick : ByteArray := prog_5_method_8_code
def yX3_oneTick : MethodName := ⟨RX3, "oneTick", "()V"⟩
abbrev cX3_stopOrTravel : ByteArray := prog_5_method_9_code
def yX3_stopOrTravel : MethodName := ⟨RX3, "stopOrTravel", "(I)V"⟩
abbrev cX3_breakCar : ByteArray := prog_5_method_10_code
def yX3_breakCar : MethodName := ⟨RX3, "breakCar", "(I)V"⟩
def RX4 : String := "GoalLifts"
def TX4 : u_T := fun k => match k with
  | 0 => ("GoalLifts", "house", "LGoalLifts$House;", true)
  | 1 => ("GoalLifts", "forecast", "LGoalLifts$House;", true)
  | _ => ("GoalLifts", "history", "LGoalLifts$History;", true)
def tyX4 : Nat → FieldType := fun k => match k with
  | 0 => .object "GoalLifts$House"
  | 1 => .object "GoalLifts$House"
  | _ => .object "GoalLifts$History"
abbrev wsX40 : List Cond := u_ws RX4 TX4 3
theorem nmX4 : ∀ a, a < 3 → ∀ b, b < 3 → a ≠ b → (TX4 a).2.1 ≠ (TX4 b).2.1 := by decide +kernel
theorem tyX4_ok : ∀ k, k < 3 → parseFieldDescriptor (TX4 k).2.2.1 = some (tyX4 k) := by decide +kernel
abbrev cX4_init : ByteArray := prog_1_method_1_code
def yX4_init : MethodName := ⟨RX4, "<init>", "()V"⟩
abbrev cX4_addCar : ByteArray := prog_1_method_2_code
def yX4_addCar : MethodName := ⟨RX4, "addCar", "(III)I"⟩
abbrev cX4_setAwake : ByteArray := prog_1_method_3_code
def yX4_setAwake : MethodName := ⟨RX4, "setAwake", "(II)I"⟩
abbrev cX4_hold : ByteArray := prog_1_method_4_code
def yX4_hold : MethodName := ⟨RX4, "hold", "(II)I"⟩
abbrev cX4_fail : ByteArray := prog_1_method_5_code
def yX4_fail : MethodName := ⟨RX4, "fail", "(I)I"⟩
abbrev cX4_repair : ByteArray := prog_1_method_6_code
def yX4_repair : MethodName := ⟨RX4, "repair", "(I)I"⟩
abbrev cX4_call : ByteArray := prog_1_method_7_code
def yX4_call : MethodName := ⟨RX4, "call", "(II)I"⟩
abbrev cX4_pass : ByteArray := prog_1_method_8_code
def yX4_pass : MethodName := ⟨RX4, "pass", "(I)I"⟩
abbrev cX4_undo : ByteArray := prog_1_method_9_code
def yX4_undo : MethodName := ⟨RX4, "undo", "()I"⟩
abbrev cX4_count : ByteArray := prog_1_method_10_code
def yX4_count : MethodName := ⟨RX4, "count", "(I)I"⟩
abbrev cX4_car : ByteArray := prog_1_method_11_code
def yX4_car : MethodName := ⟨RX4, "car", "(II)I"⟩
abbrev cX4_caller : ByteArray := prog_1_method_12_code
def yX4_caller : MethodName := ⟨RX4, "caller", "(II)I"⟩
abbrev cX4_group : ByteArray := prog_1_method_13_code
def yX4_group : MethodName := ⟨RX4, "group", "(II)I"⟩
abbrev cX4_cost : ByteArray := prog_1_method_14_code
def yX4_cost : MethodName := ⟨RX4, "cost", "(III)I"⟩
abbrev cX4_would : ByteArray := prog_1_method_15_code
def yX4_would : MethodName := ⟨RX4, "would", "(II)I"⟩
abbrev cX4_thereIn : ByteArray := prog_1_method_16_code
def yX4_thereIn : MethodName := ⟨RX4, "thereIn", "(I)I"⟩
abbrev cX4_waits : ByteArray := prog_1_method_17_code
def yX4_waits : MethodName := ⟨RX4, "waits", "(I)I"⟩
abbrev cX4_worstCar : ByteArray := prog_1_method_18_code
def yX4_worstCar : MethodName := ⟨RX4, "worstCar", "(I)I"⟩
abbrev cX4_isFloor : ByteArray := prog_1_method_19_code
def yX4_isFloor : MethodName := ⟨RX4, "isFloor", "(I)Z"⟩
abbrev cX4_isWay : ByteArray := prog_1_method_20_code
def yX4_isWay : MethodName := ⟨RX4, "isWay", "(II)Z"⟩
abbrev cX4_allThereInWithout : ByteArray := prog_1_method_21_code
def yX4_allThereInWithout : MethodName := ⟨RX4, "allThereInWithout", "(I)I"⟩
def RX5 : String := "GoalLiftsModel"
def TX5 : u_T := fun k => match k with
  | 0 => ("GoalLiftsModel", "s", "[I", true)
  | 1 => ("GoalLiftsModel", "past", "[I", true)
  | 2 => ("GoalLiftsModel", "held", "[I", true)
  | 3 => ("GoalLiftsModel", "tried", "[I", true)
  | _ => ("GoalLiftsModel", "pasts", "I", false)
def tyX5 : Nat → FieldType := fun k => match k with
  | 0 => .array .int
  | 1 => .array .int
  | 2 => .array .int
  | 3 => .array .int
  | _ => .int
abbrev wsX50 : List Cond := u_ws RX5 TX5 5
theorem nmX5 : ∀ a, a < 5 → ∀ b, b < 5 → a ≠ b → (TX5 a).2.1 ≠ (TX5 b).2.1 := by decide +kernel
theorem tyX5_ok : ∀ k, k < 5 → parseFieldDescriptor (TX5 k).2.2.1 = some (tyX5 k) := by decide +kernel
abbrev cX5_init : ByteArray := prog_7_method_1_code
def yX5_init : MethodName := ⟨RX5, "<init>", "()V"⟩
abbrev cX5_in : ByteArray := prog_7_method_3_code
def yX5_in : MethodName := ⟨RX5, "in", "(III)Z"⟩
abbrev cX5_acts : ByteArray := prog_7_method_4_code
def yX5_acts : MethodName := ⟨RX5, "acts", "()V"⟩
abbrev cX5_copies : ByteArray := prog_7_method_5_code
def yX5_copies : MethodName := ⟨RX5, "copies", "([I[I)V"⟩
abbrev cX5_isCar : ByteArray := prog_7_method_6_code
def yX5_isCar : MethodName := ⟨RX5, "isCar", "(I)Z"⟩
abbrev cX5_isCaller : ByteArray := prog_7_method_7_code
def yX5_isCaller : MethodName := ⟨RX5, "isCaller", "(I)Z"⟩
abbrev cX5_isFloor : ByteArray := prog_7_method_8_code
def yX5_isFloor : MethodName := ⟨RX5, "isFloor", "(I)Z"⟩
abbrev cX5_ofCar : ByteArray := prog_7_method_9_code
def yX5_ofCar : MethodName := ⟨RX5, "ofCar", "(II)I"⟩
abbrev cX5_putsCar : ByteArray := prog_7_method_10_code
def yX5_putsCar : MethodName := ⟨RX5, "putsCar", "(III)V"⟩
abbrev cX5_ofCaller : ByteArray := prog_7_method_11_code
def yX5_ofCaller : MethodName := ⟨RX5, "ofCaller", "(II)I"⟩
abbrev cX5_puts : ByteArray := prog_7_method_12_code
def yX5_puts : MethodName := ⟨RX5, "puts", "(III)V"⟩
abbrev cX5_hour : ByteArray := prog_7_method_13_code
def yX5_hour : MethodName := ⟨RX5, "hour", "()I"⟩
abbrev cX5_isAwake : ByteArray := prog_7_method_14_code
def yX5_isAwake : MethodName := ⟨RX5, "isAwake", "(I)Z"⟩
abbrev cX5_many : ByteArray := prog_7_method_15_code
def yX5_many : MethodName := ⟨RX5, "many", "(II)I"⟩
abbrev cX5_inAll : ByteArray := prog_7_method_16_code
def yX5_inAll : MethodName := ⟨RX5, "inAll", "(I)I"⟩
abbrev cX5_stops : ByteArray := prog_7_method_17_code
def yX5_stops : MethodName := ⟨RX5, "stops", "(I)I"⟩
abbrev cX5_ones : ByteArray := prog_7_method_18_code
def yX5_ones : MethodName := ⟨RX5, "ones", "(I)I"⟩
abbrev cX5_far : ByteArray := prog_7_method_19_code
def yX5_far : MethodName := ⟨RX5, "far", "(II)I"⟩
abbrev cX5_canBeGiven : ByteArray := prog_7_method_20_code
def yX5_canBeGiven : MethodName := ⟨RX5, "canBeGiven", "(III)Z"⟩
abbrev cX5_costOf : ByteArray := prog_7_method_21_code
def yX5_costOf : MethodName := ⟨RX5, "costOf", "(III)I"⟩
abbrev cX5_best : ByteArray := prog_7_method_22_code
def yX5_best : MethodName := ⟨RX5, "best", "(II)I"⟩
abbrev cX5_gives : ByteArray := prog_7_method_23_code
def yX5_gives : MethodName := ⟨RX5, "gives", "(I)V"⟩
abbrev cX5_aim : ByteArray := prog_7_method_24_code
def yX5_aim : MethodName := ⟨RX5, "aim", "(I)I"⟩
abbrev cX5_isOut : ByteArray := prog_7_method_25_code
def yX5_isOut : MethodName := ⟨RX5, "isOut", "(II)Z"⟩
abbrev cX5_isTaken : ByteArray := prog_7_method_26_code
def yX5_isTaken : MethodName := ⟨RX5, "isTaken", "(II)Z"⟩
abbrev cX5_isStop : ByteArray := prog_7_method_27_code
def yX5_isStop : MethodName := ⟨RX5, "isStop", "(I)Z"⟩
abbrev cX5_stopsNow : ByteArray := prog_7_method_28_code
def yX5_stopsNow : MethodName := ⟨RX5, "stopsNow", "(I)V"⟩
abbrev cX5_ticks : ByteArray := prog_7_method_29_code
def yX5_ticks : MethodName := ⟨RX5, "ticks", "()V"⟩
abbrev cX5_fails : ByteArray := prog_7_method_30_code
def yX5_fails : MethodName := ⟨RX5, "fails", "(I)V"⟩
abbrev cX5_addCar : ByteArray := prog_7_method_31_code
def yX5_addCar : MethodName := ⟨RX5, "addCar", "(III)I"⟩
abbrev cX5_setAwake : ByteArray := prog_7_method_32_code
def yX5_setAwake : MethodName := ⟨RX5, "setAwake", "(II)I"⟩
abbrev cX5_hold : ByteArray := prog_7_method_33_code
def yX5_hold : MethodName := ⟨RX5, "hold", "(II)I"⟩
abbrev cX5_fail : ByteArray := prog_7_method_34_code
def yX5_fail : MethodName := ⟨RX5, "fail", "(I)I"⟩
abbrev cX5_repair : ByteArray := prog_7_method_35_code
def yX5_repair : MethodName := ⟨RX5, "repair", "(I)I"⟩
abbrev cX5_isWay : ByteArray := prog_7_method_36_code
def yX5_isWay : MethodName := ⟨RX5, "isWay", "(II)Z"⟩
abbrev cX5_call : ByteArray := prog_7_method_37_code
def yX5_call : MethodName := ⟨RX5, "call", "(II)I"⟩
abbrev cX5_pass : ByteArray := prog_7_method_38_code
def yX5_pass : MethodName := ⟨RX5, "pass", "(I)I"⟩
abbrev cX5_undo : ByteArray := prog_7_method_39_code
def yX5_undo : MethodName := ⟨RX5, "undo", "()I"⟩
abbrev cX5_isOpen : ByteArray := prog_7_method_40_code
def yX5_isOpen : MethodName := ⟨RX5, "isOpen", "(I)Z"⟩
abbrev cX5_isFirst : ByteArray := prog_7_method_41_code
def yX5_isFirst : MethodName := ⟨RX5, "isFirst", "(I)Z"⟩
abbrev cX5_areOne : ByteArray := prog_7_method_42_code
def yX5_areOne : MethodName := ⟨RX5, "areOne", "(II)Z"⟩
abbrev cX5_groups : ByteArray := prog_7_method_43_code
def yX5_groups : MethodName := ⟨RX5, "groups", "()I"⟩
abbrev cX5_sumOfCars : ByteArray := prog_7_method_44_code
def yX5_sumOfCars : MethodName := ⟨RX5, "sumOfCars", "(II)I"⟩
abbrev cX5_count : ByteArray := prog_7_method_45_code
def yX5_count : MethodName := ⟨RX5, "count", "(I)I"⟩
abbrev cX5_car : ByteArray := prog_7_method_46_code
def yX5_car : MethodName := ⟨RX5, "car", "(II)I"⟩
abbrev cX5_caller : ByteArray := prog_7_method_47_code
def yX5_caller : MethodName := ⟨RX5, "caller", "(II)I"⟩
abbrev cX5_group : ByteArray := prog_7_method_48_code
def yX5_group : MethodName := ⟨RX5, "group", "(II)I"⟩
abbrev cX5_cost : ByteArray := prog_7_method_49_code
def yX5_cost : MethodName := ⟨RX5, "cost", "(III)I"⟩
abbrev cX5_would : ByteArray := prog_7_method_50_code
def yX5_would : MethodName := ⟨RX5, "would", "(II)I"⟩
abbrev cX5_thereIn : ByteArray := prog_7_method_51_code
def yX5_thereIn : MethodName := ⟨RX5, "thereIn", "(I)I"⟩
abbrev cX5_waited : ByteArray := prog_7_method_52_code
def yX5_waited : MethodName := ⟨RX5, "waited", "(I)I"⟩
abbrev cX5_waits : ByteArray := prog_7_method_53_code
def yX5_waits : MethodName := ⟨RX5, "waits", "(I)I"⟩
abbrev cX5_allThere : ByteArray := prog_7_method_54_code
def yX5_allThere : MethodName := ⟨RX5, "allThere", "()I"⟩
abbrev cX5_worstCar : ByteArray := prog_7_method_55_code
def yX5_worstCar : MethodName := ⟨RX5, "worstCar", "(I)I"⟩
def RJ6 : String := "java/lang/Integer"
def TJ6 : u_T := fun k => match k with
  | _ => ("", "", "", false)
def tyJ6 : Nat → FieldType := fun k => match k with
  | _ => .int
abbrev wsJ60 : List Cond := u_ws RJ6 TJ6 0
theorem nmJ6 : ∀ a, a < 0 → ∀ b, b < 0 → a ≠ b → (TJ6 a).2.1 ≠ (TJ6 b).2.1 := by decide +kernel
theorem tyJ6_ok : ∀ k, k < 0 → parseFieldDescriptor (TJ6 k).2.2.1 = some (tyJ6 k) := by decide +kernel
abbrev cJ6_bitCount_0f7a4 : ByteArray := prog_8_method_49_code
def yJ6_bitCount_0f7a4 : MethodName := ⟨RJ6, "bitCount", "(I)I"⟩
def RJ9 : String := "java/lang/Math"
def TJ9 : u_T := fun k => match k with
  | _ => ("", "", "", false)
def tyJ9 : Nat → FieldType := fun k => match k with
  | _ => .int
abbrev wsJ90 : List Cond := u_ws RJ9 TJ9 0
theorem nmJ9 : ∀ a, a < 0 → ∀ b, b < 0 → a ≠ b → (TJ9 a).2.1 ≠ (TJ9 b).2.1 := by decide +kernel
theorem tyJ9_ok : ∀ k, k < 0 → parseFieldDescriptor (TJ9 k).2.2.1 = some (tyJ9 k) := by decide +kernel
abbrev cJ9_floorMod_7cf53 : ByteArray := prog_9_method_50_code
def yJ9_floorMod_7cf53 : MethodName := ⟨RJ9, "floorMod", "(II)I"⟩
abbrev cJ9_abs_0f7a4 : ByteArray := prog_9_method_59_code
def yJ9_abs_0f7a4 : MethodName := ⟨RJ9, "abs", "(I)I"⟩
abbrev cJ9_min_7cf53 : ByteArray := prog_9_method_69_code
def yJ9_min_7cf53 : MethodName := ⟨RJ9, "min", "(II)I"⟩
def RJ10 : String := "java/lang/System"
def TJ10 : u_T := fun k => match k with
  | _ => ("", "", "", false)
def tyJ10 : Nat → FieldType := fun k => match k with
  | _ => .int
abbrev wsJ100 : List Cond := u_ws RJ10 TJ10 0
theorem nmJ10 : ∀ a, a < 0 → ∀ b, b < 0 → a ≠ b → (TJ10 a).2.1 ≠ (TJ10 b).2.1 := by decide +kernel
theorem tyJ10_ok : ∀ k, k < 0 → parseFieldDescriptor (TJ10 k).2.2.1 = some (tyJ10 k) := by decide +kernel
def RL : String := "GoalLiftsLaw"
abbrev cL_law : ByteArray := code
def yL_law : MethodName := ⟨RL, "law", "([I)Z"⟩
def wsX0_init : List Cond := .code yX0_init cX0_init 1 none :: ([.methodLink RX0 3 objectInit, .instanceMethod objectInit, .code objectInit ⟨#[0xb1]⟩ 1 none, .arrayClass .int, .fieldLink RX0 9 "GoalLifts$Callers" "floor" "[I", .fieldLink RX0 15 "GoalLifts$Callers" "goal" "[I", .fieldLink RX0 18 "GoalLifts$Callers" "phase" "[I", .fieldLink RX0 21 "GoalLifts$Callers" "given" "[I", .fieldLink RX0 24 "GoalLifts$Callers" "calledAt" "[I", .fieldLink RX0 27 "GoalLifts$Callers" "rodeAt" "[I", .fieldLink RX0 30 "GoalLifts$Callers" "thereAt" "[I", .fieldLink RX0 33 "GoalLifts$Callers" "timesGiven" "[I"] ++ wsX00)
def wsX0_copyFrom : List Cond := .code yX0_copyFrom cX0_copyFrom 2 none :: ([.fieldLink RX0 36 "GoalLifts$Callers" "count" "I", .fieldLink RX0 9 "GoalLifts$Callers" "floor" "[I", .methodLink RX0 40 arraycopyName, .native arraycopyName, .static arraycopyName, .initialized "java/lang/System", .fieldLink RX0 15 "GoalLifts$Callers" "goal" "[I", .fieldLink RX0 18 "GoalLifts$Callers" "phase" "[I", .fieldLink RX0 21 "GoalLifts$Callers" "given" "[I", .fieldLink RX0 24 "GoalLifts$Callers" "calledAt" "[I", .fieldLink RX0 27 "GoalLifts$Callers" "rodeAt" "[I", .fieldLink RX0 30 "GoalLifts$Callers" "thereAt" "[I", .fieldLink RX0 33 "GoalLifts$Callers" "timesGiven" "[I"] ++ wsX00)
def wsX0_has : List Cond := .code yX0_has cX0_has 2 (some .boolean) :: ([.fieldLink RX0 36 "GoalLifts$Callers" "count" "I"] ++ wsX00)
def wsX0_add : List Cond := .code yX0_add cX0_add 5 (some .int) :: ([.fieldLink RX0 36 "GoalLifts$Callers" "count" "I", .fieldLink RX0 9 "GoalLifts$Callers" "floor" "[I", .fieldLink RX0 15 "GoalLifts$Callers" "goal" "[I", .fieldLink RX0 18 "GoalLifts$Callers" "phase" "[I", .fieldLink RX0 21 "GoalLifts$Callers" "given" "[I", .fieldLink RX0 24 "GoalLifts$Callers" "calledAt" "[I", .fieldLink RX0 27 "GoalLifts$Callers" "rodeAt" "[I", .fieldLink RX0 30 "GoalLifts$Callers" "thereAt" "[I", .fieldLink RX0 33 "GoalLifts$Callers" "timesGiven" "[I"] ++ wsX00)
def wsX0_give : List Cond := .code yX0_give cX0_give 3 none :: ([.fieldLink RX0 18 "GoalLifts$Callers" "phase" "[I", .fieldLink RX0 21 "GoalLifts$Callers" "given" "[I", .fieldLink RX0 33 "GoalLifts$Callers" "timesGiven" "[I", .methodLink RX0 46 yX0_has, .instanceMethod yX0_has, .selects RX0 yX0_has yX0_has, .initialized RX0, .code yX0_has cX0_has 2 (some .boolean), .fieldLink RX0 36 "GoalLifts$Callers" "count" "I"] ++ wsX00)
def wsX0_rides : List Cond := .code yX0_rides cX0_rides 3 (some .boolean) :: ([.fieldLink RX0 18 "GoalLifts$Callers" "phase" "[I", .fieldLink RX0 21 "GoalLifts$Callers" "given" "[I"] ++ wsX00)
def wsX0_waitsFor : List Cond := .code yX0_waitsFor cX0_waitsFor 3 (some .boolean) :: ([.fieldLink RX0 18 "GoalLifts$Callers" "phase" "[I", .fieldLink RX0 21 "GoalLifts$Callers" "given" "[I"] ++ wsX00)
def wsX0_numberIn : List Cond := .code yX0_numberIn cX0_numberIn 4 (some .int) :: ([.fieldLink RX0 36 "GoalLifts$Callers" "count" "I", .fieldLink RX0 18 "GoalLifts$Callers" "phase" "[I"] ++ wsX00)
def wsX0_numberOf : List Cond := .code yX0_numberOf cX0_numberOf 5 (some .int) :: ([.fieldLink RX0 36 "GoalLifts$Callers" "count" "I", .fieldLink RX0 18 "GoalLifts$Callers" "phase" "[I", .fieldLink RX0 21 "GoalLifts$Callers" "given" "[I"] ++ wsX00)
def wsX0_numberWith : List Cond := .code yX0_numberWith cX0_numberWith 2 (some .int) :: ([.methodLink RX0 50 yX0_numberOf, .instanceMethod yX0_numberOf, .selects RX0 yX0_numberOf yX0_numberOf, .initialized RX0, .code yX0_numberOf cX0_numberOf 5 (some .int), .fieldLink RX0 36 "GoalLifts$Callers" "count" "I", .fieldLink RX0 18 "GoalLifts$Callers" "phase" "[I", .fieldLink RX0 21 "GoalLifts$Callers" "given" "[I"] ++ wsX00)
def wsX0_stopsOf : List Cond := .code yX0_stopsOf cX0_stopsOf 4 (some .int) :: ([.fieldLink RX0 36 "GoalLifts$Callers" "count" "I", .fieldLink RX0 9 "GoalLifts$Callers" "floor" "[I", .fieldLink RX0 15 "GoalLifts$Callers" "goal" "[I", .methodLink RX0 54 yX0_waitsFor, .instanceMethod yX0_waitsFor, .selects RX0 yX0_waitsFor yX0_waitsFor, .initialized RX0, .code yX0_waitsFor cX0_waitsFor 3 (some .boolean), .fieldLink RX0 18 "GoalLifts$Callers" "phase" "[I", .fieldLink RX0 21 "GoalLifts$Callers" "given" "[I", .methodLink RX0 58 yX0_rides, .instanceMethod yX0_rides, .selects RX0 yX0_rides yX0_rides, .code yX0_rides cX0_rides 3 (some .boolean)] ++ wsX00)
def wsX0_isNearer : List Cond := .code yX0_isNearer cX0_isNearer 5 (some .boolean) :: ([.methodLink RX0 65 Lib.Math.abs.name, .static Lib.Math.abs.name, .initialized "java/lang/Math", .code Lib.Math.abs.name Lib.Math.abs.code 1 (some .int)])
def wsX0_aimOf : List Cond := .code yX0_aimOf cX0_aimOf 6 (some .int) :: ([.fieldLink RX0 36 "GoalLifts$Callers" "count" "I", .fieldLink RX0 15 "GoalLifts$Callers" "goal" "[I", .fieldLink RX0 9 "GoalLifts$Callers" "floor" "[I", .methodLink RX0 58 yX0_rides, .instanceMethod yX0_rides, .selects RX0 yX0_rides yX0_rides, .initialized RX0, .code yX0_rides cX0_rides 3 (some .boolean), .fieldLink RX0 18 "GoalLifts$Callers" "phase" "[I", .fieldLink RX0 21 "GoalLifts$Callers" "given" "[I", .methodLink RX0 61 yX0_isNearer, .static yX0_isNearer, .code yX0_isNearer cX0_isNearer 5 (some .boolean), .methodLink RX0 65 Lib.Math.abs.name, .static Lib.Math.abs.name, .initialized "java/lang/Math", .code Lib.Math.abs.name Lib.Math.abs.code 1 (some .int), .methodLink RX0 54 yX0_waitsFor, .instanceMethod yX0_waitsFor, .selects RX0 yX0_waitsFor yX0_waitsFor, .code yX0_waitsFor cX0_waitsFor 3 (some .boolean)] ++ wsX00)
def wsX0_letOut : List Cond := .code yX0_letOut cX0_letOut 6 (some .int) :: ([.fieldLink RX0 36 "GoalLifts$Callers" "count" "I", .fieldLink RX0 15 "GoalLifts$Callers" "goal" "[I", .fieldLink RX0 18 "GoalLifts$Callers" "phase" "[I", .fieldLink RX0 30 "GoalLifts$Callers" "thereAt" "[I", .methodLink RX0 58 yX0_rides, .instanceMethod yX0_rides, .selects RX0 yX0_rides yX0_rides, .initialized RX0, .code yX0_rides cX0_rides 3 (some .boolean), .fieldLink RX0 21 "GoalLifts$Callers" "given" "[I"] ++ wsX00)
def wsX0_takeIn : List Cond := .code yX0_takeIn cX0_takeIn 8 (some .int) :: ([.fieldLink RX0 36 "GoalLifts$Callers" "count" "I", .fieldLink RX0 9 "GoalLifts$Callers" "floor" "[I", .fieldLink RX0 18 "GoalLifts$Callers" "phase" "[I", .fieldLink RX0 27 "GoalLifts$Callers" "rodeAt" "[I", .methodLink RX0 50 yX0_numberOf, .instanceMethod yX0_numberOf, .selects RX0 yX0_numberOf yX0_numberOf, .initialized RX0, .code yX0_numberOf cX0_numberOf 5 (some .int), .fieldLink RX0 21 "GoalLifts$Callers" "given" "[I", .methodLink RX0 54 yX0_waitsFor, .instanceMethod yX0_waitsFor, .selects RX0 yX0_waitsFor yX0_waitsFor, .code yX0_waitsFor cX0_waitsFor 3 (some .boolean)] ++ wsX00)
def wsX0_loseCar : List Cond := .code yX0_loseCar cX0_loseCar 6 none :: ([.fieldLink RX0 36 "GoalLifts$Callers" "count" "I", .fieldLink RX0 9 "GoalLifts$Callers" "floor" "[I", .fieldLink RX0 15 "GoalLifts$Callers" "goal" "[I", .fieldLink RX0 18 "GoalLifts$Callers" "phase" "[I", .fieldLink RX0 30 "GoalLifts$Callers" "thereAt" "[I", .fieldLink RX0 21 "GoalLifts$Callers" "given" "[I", .methodLink RX0 58 yX0_rides, .instanceMethod yX0_rides, .selects RX0 yX0_rides yX0_rides, .initialized RX0, .code yX0_rides cX0_rides 3 (some .boolean), .methodLink RX0 54 yX0_waitsFor, .instanceMethod yX0_waitsFor, .selects RX0 yX0_waitsFor yX0_waitsFor, .code yX0_waitsFor cX0_waitsFor 3 (some .boolean)] ++ wsX00)
def wsX0_waitOf : List Cond := .code yX0_waitOf cX0_waitOf 4 (some .int) :: ([.fieldLink RX0 18 "GoalLifts$Callers" "phase" "[I", .fieldLink RX0 27 "GoalLifts$Callers" "rodeAt" "[I", .fieldLink RX0 24 "GoalLifts$Callers" "calledAt" "[I"] ++ wsX00)
def wsX0_isInGroup : List Cond := .code yX0_isInGroup cX0_isInGroup 2 (some .boolean) :: ([.fieldLink RX0 18 "GoalLifts$Callers" "phase" "[I"] ++ wsX00)
def wsX0_sameGroup : List Cond := .code yX0_sameGroup cX0_sameGroup 3 (some .boolean) :: ([.fieldLink RX0 9 "GoalLifts$Callers" "floor" "[I", .fieldLink RX0 15 "GoalLifts$Callers" "goal" "[I", .methodLink RX0 71 yX0_isInGroup, .instanceMethod yX0_isInGroup, .selects RX0 yX0_isInGroup yX0_isInGroup, .initialized RX0, .code yX0_isInGroup cX0_isInGroup 2 (some .boolean), .fieldLink RX0 18 "GoalLifts$Callers" "phase" "[I"] ++ wsX00)
def wsX0_isFirstOfGroup : List Cond := .code yX0_isFirstOfGroup cX0_isFirstOfGroup 3 (some .boolean) :: ([.methodLink RX0 74 yX0_sameGroup, .instanceMethod yX0_sameGroup, .selects RX0 yX0_sameGroup yX0_sameGroup, .initialized RX0, .code yX0_sameGroup cX0_sameGroup 3 (some .boolean), .fieldLink RX0 9 "GoalLifts$Callers" "floor" "[I", .fieldLink RX0 15 "GoalLifts$Callers" "goal" "[I", .methodLink RX0 71 yX0_isInGroup, .instanceMethod yX0_isInGroup, .selects RX0 yX0_isInGroup yX0_isInGroup, .code yX0_isInGroup cX0_isInGroup 2 (some .boolean), .fieldLink RX0 18 "GoalLifts$Callers" "phase" "[I"] ++ wsX00)
def wsX0_numberOfGroups : List Cond := .code yX0_numberOfGroups cX0_numberOfGroups 3 (some .int) :: ([.fieldLink RX0 36 "GoalLifts$Callers" "count" "I", .methodLink RX0 77 yX0_isFirstOfGroup, .instanceMethod yX0_isFirstOfGroup, .selects RX0 yX0_isFirstOfGroup yX0_isFirstOfGroup, .initialized RX0, .code yX0_isFirstOfGroup cX0_isFirstOfGroup 3 (some .boolean), .methodLink RX0 74 yX0_sameGroup, .instanceMethod yX0_sameGroup, .selects RX0 yX0_sameGroup yX0_sameGroup, .code yX0_sameGroup cX0_sameGroup 3 (some .boolean), .fieldLink RX0 9 "GoalLifts$Callers" "floor" "[I", .fieldLink RX0 15 "GoalLifts$Callers" "goal" "[I", .methodLink RX0 71 yX0_isInGroup, .instanceMethod yX0_isInGroup, .selects RX0 yX0_isInGroup yX0_isInGroup, .code yX0_isInGroup cX0_isInGroup 2 (some .boolean), .fieldLink RX0 18 "GoalLifts$Callers" "phase" "[I"] ++ wsX00)
def wsX0_firstOfGroup : List Cond := .code yX0_firstOfGroup cX0_firstOfGroup 4 (some .int) :: ([.fieldLink RX0 36 "GoalLifts$Callers" "count" "I", .methodLink RX0 77 yX0_isFirstOfGroup, .instanceMethod yX0_isFirstOfGroup, .selects RX0 yX0_isFirstOfGroup yX0_isFirstOfGroup, .initialized RX0, .code yX0_isFirstOfGroup cX0_isFirstOfGroup 3 (some .boolean), .methodLink RX0 74 yX0_sameGroup, .instanceMethod yX0_sameGroup, .selects RX0 yX0_sameGroup yX0_sameGroup, .code yX0_sameGroup cX0_sameGroup 3 (some .boolean), .fieldLink RX0 9 "GoalLifts$Callers" "floor" "[I", .fieldLink RX0 15 "GoalLifts$Callers" "goal" "[I", .methodLink RX0 71 yX0_isInGroup, .instanceMethod yX0_isInGroup, .selects RX0 yX0_isInGroup yX0_isInGroup, .code yX0_isInGroup cX0_isInGroup 2 (some .boolean), .fieldLink RX0 18 "GoalLifts$Callers" "phase" "[I"] ++ wsX00)
def wsX0_sizeOfGroup : List Cond := .code yX0_sizeOfGroup cX0_sizeOfGroup 4 (some .int) :: ([.fieldLink RX0 36 "GoalLifts$Callers" "count" "I", .methodLink RX0 74 yX0_sameGroup, .instanceMethod yX0_sameGroup, .selects RX0 yX0_sameGroup yX0_sameGroup, .initialized RX0, .code yX0_sameGroup cX0_sameGroup 3 (some .boolean), .fieldLink RX0 9 "GoalLifts$Callers" "floor" "[I", .fieldLink RX0 15 "GoalLifts$Callers" "goal" "[I", .methodLink RX0 71 yX0_isInGroup, .instanceMethod yX0_isInGroup, .selects RX0 yX0_isInGroup yX0_isInGroup, .code yX0_isInGroup cX0_isInGroup 2 (some .boolean), .fieldLink RX0 18 "GoalLifts$Callers" "phase" "[I"] ++ wsX00)
def wsX1_init : List Cond := .code yX1_init cX1_init 1 none :: ([.methodLink RX1 3 objectInit, .instanceMethod objectInit, .code objectInit ⟨#[0xb1]⟩ 1 none, .arrayClass .int, .fieldLink RX1 9 "GoalLifts$Cars" "lowest" "[I", .fieldLink RX1 15 "GoalLifts$Cars" "highest" "[I", .fieldLink RX1 18 "GoalLifts$Cars" "places" "[I", .fieldLink RX1 21 "GoalLifts$Cars" "floor" "[I", .fieldLink RX1 24 "GoalLifts$Cars" "state" "[I", .fieldLink RX1 27 "GoalLifts$Cars" "travelled" "[I"] ++ wsX10)
def wsX1_copyFrom : List Cond := .code yX1_copyFrom cX1_copyFrom 2 none :: ([.fieldLink RX1 30 "GoalLifts$Cars" "count" "I", .fieldLink RX1 34 "GoalLifts$Cars" "stopsMade" "I", .fieldLink RX1 9 "GoalLifts$Cars" "lowest" "[I", .methodLink RX1 37 arraycopyName, .native arraycopyName, .static arraycopyName, .initialized "java/lang/System", .fieldLink RX1 15 "GoalLifts$Cars" "highest" "[I", .fieldLink RX1 18 "GoalLifts$Cars" "places" "[I", .fieldLink RX1 21 "GoalLifts$Cars" "floor" "[I", .fieldLink RX1 24 "GoalLifts$Cars" "state" "[I", .fieldLink RX1 27 "GoalLifts$Cars" "travelled" "[I"] ++ wsX10)
def wsX1_has : List Cond := .code yX1_has cX1_has 2 (some .boolean) :: ([.fieldLink RX1 30 "GoalLifts$Cars" "count" "I"] ++ wsX10)
def wsX1_add : List Cond := .code yX1_add cX1_add 5 (some .int) :: ([.fieldLink RX1 30 "GoalLifts$Cars" "count" "I", .fieldLink RX1 9 "GoalLifts$Cars" "lowest" "[I", .fieldLink RX1 15 "GoalLifts$Cars" "highest" "[I", .fieldLink RX1 18 "GoalLifts$Cars" "places" "[I", .fieldLink RX1 21 "GoalLifts$Cars" "floor" "[I", .fieldLink RX1 24 "GoalLifts$Cars" "state" "[I", .fieldLink RX1 27 "GoalLifts$Cars" "travelled" "[I"] ++ wsX10)
def wsX1_serves : List Cond := .code yX1_serves cX1_serves 3 (some .boolean) :: ([.fieldLink RX1 9 "GoalLifts$Cars" "lowest" "[I", .fieldLink RX1 15 "GoalLifts$Cars" "highest" "[I"] ++ wsX10)
def wsX1_travelTowards : List Cond := .code yX1_travelTowards cX1_travelTowards 3 none :: ([.fieldLink RX1 21 "GoalLifts$Cars" "floor" "[I", .fieldLink RX1 27 "GoalLifts$Cars" "travelled" "[I"] ++ wsX10)
def wsX1_numberIn : List Cond := .code yX1_numberIn cX1_numberIn 4 (some .int) :: ([.fieldLink RX1 30 "GoalLifts$Cars" "count" "I", .fieldLink RX1 24 "GoalLifts$Cars" "state" "[I"] ++ wsX10)
def wsX1_travelledByAll : List Cond := .code yX1_travelledByAll cX1_travelledByAll 3 (some .int) :: ([.fieldLink RX1 30 "GoalLifts$Cars" "count" "I", .fieldLink RX1 27 "GoalLifts$Cars" "travelled" "[I"] ++ wsX10)
def wsX3_init_r1 : List Cond := [Cond.methodLink RX3 3 objectInit, Cond.instanceMethod objectInit, Cond.code objectInit ⟨#[0xb1]⟩ 1 none, Cond.arrayClass .int, Cond.fieldLink RX3 9 "GoalLifts$House" "awake" "[I", Cond.classLink RX3 15 RX1, Cond.instantiable RX1 8, Cond.initialized RX1, Cond.fieldLink RX3 18 "GoalLifts$House" "cars" "LGoalLifts$Cars;", Cond.classLink RX3 22 RX0, Cond.instantiable RX0 9, Cond.initialized RX0, Cond.fieldLink RX3 25 "GoalLifts$House" "callers" "LGoalLifts$Callers;", Cond.instanceMethod yX1_init, Cond.code yX1_init cX1_init 1 none, Cond.methodLink RX1 3 objectInit, Cond.fieldLink RX1 9 "GoalLifts$Cars" "lowest" "[I", Cond.fieldLink RX1 15 "GoalLifts$Cars" "highest" "[I", Cond.fieldLink RX1 18 "GoalLifts$Cars" "places" "[I", Cond.fieldLink RX1 21 "GoalLifts$Cars" "floor" "[I", Cond.fieldLink RX1 24 "GoalLifts$Cars" "state" "[I", Cond.fieldLink RX1 27 "GoalLifts$Cars" "travelled" "[I", Cond.instanceMethod yX0_init, Cond.code yX0_init cX0_init 1 none]
def wsX3_init_r2 : List Cond := [Cond.methodLink RX0 3 objectInit, Cond.fieldLink RX0 9 "GoalLifts$Callers" "floor" "[I", Cond.fieldLink RX0 15 "GoalLifts$Callers" "goal" "[I", Cond.fieldLink RX0 18 "GoalLifts$Callers" "phase" "[I", Cond.fieldLink RX0 21 "GoalLifts$Callers" "given" "[I", Cond.fieldLink RX0 24 "GoalLifts$Callers" "calledAt" "[I", Cond.fieldLink RX0 27 "GoalLifts$Callers" "rodeAt" "[I", Cond.fieldLink RX0 30 "GoalLifts$Callers" "thereAt" "[I", Cond.fieldLink RX0 33 "GoalLifts$Callers" "timesGiven" "[I"]
def wsX3_init : List Cond := .code yX3_init cX3_init 2 none :: ((wsX3_init_r1 ++ wsX3_init_r2) ++ wsX30 ++ wsX10 ++ wsX00)
def wsX2_init_r1 : List Cond := [Cond.methodLink RX2 3 objectInit, Cond.instanceMethod objectInit, Cond.code objectInit ⟨#[0xb1]⟩ 1 none, Cond.classLink RX2 9 RX3, Cond.fieldLink RX2 11 "GoalLifts$History" "states" "[LGoalLifts$House;", Cond.instantiable RX3 4, Cond.initialized RX3, Cond.methodLink RX2 17 yX3_init, Cond.instanceMethod yX3_init, Cond.code yX3_init cX3_init 2 none, Cond.methodLink RX3 3 objectInit, Cond.arrayClass .int, Cond.fieldLink RX3 9 "GoalLifts$House" "awake" "[I", Cond.classLink RX3 15 RX1, Cond.instantiable RX1 8, Cond.initialized RX1, Cond.fieldLink RX3 18 "GoalLifts$House" "cars" "LGoalLifts$Cars;", Cond.classLink RX3 22 RX0, Cond.instantiable RX0 9, Cond.initialized RX0, Cond.fieldLink RX3 25 "GoalLifts$House" "callers" "LGoalLifts$Callers;", Cond.instanceMethod yX1_init, Cond.code yX1_init cX1_init 1 none, Cond.methodLink RX1 3 objectInit]
def wsX2_init_r2 : List Cond := [Cond.fieldLink RX1 9 "GoalLifts$Cars" "lowest" "[I", Cond.fieldLink RX1 15 "GoalLifts$Cars" "highest" "[I", Cond.fieldLink RX1 18 "GoalLifts$Cars" "places" "[I", Cond.fieldLink RX1 21 "GoalLifts$Cars" "floor" "[I", Cond.fieldLink RX1 24 "GoalLifts$Cars" "state" "[I", Cond.fieldLink RX1 27 "GoalLifts$Cars" "travelled" "[I", Cond.instanceMethod yX0_init, Cond.code yX0_init cX0_init 1 none, Cond.methodLink RX0 3 objectInit, Cond.fieldLink RX0 9 "GoalLifts$Callers" "floor" "[I", Cond.fieldLink RX0 15 "GoalLifts$Callers" "goal" "[I", Cond.fieldLink RX0 18 "GoalLifts$Callers" "phase" "[I", Cond.fieldLink RX0 21 "GoalLifts$Callers" "given" "[I", Cond.fieldLink RX0 24 "GoalLifts$Callers" "calledAt" "[I", Cond.fieldLink RX0 27 "GoalLifts$Callers" "rodeAt" "[I", Cond.fieldLink RX0 30 "GoalLifts$Callers" "thereAt" "[I", Cond.fieldLink RX0 33 "GoalLifts$Callers" "timesGiven" "[I"]
def wsX2_init : List Cond := .code yX2_init cX2_init 2 none :: ((wsX2_init_r1 ++ wsX2_init_r2) ++ wsX20 ++ wsX30 ++ wsX10 ++ wsX00)
def wsX3_copyFrom_r1 : List Cond := [Cond.fieldLink RX3 29 "GoalLifts$House" "tick" "I", Cond.fieldLink RX3 9 "GoalLifts$House" "awake" "[I", Cond.methodLink RX3 33 arraycopyName, Cond.native arraycopyName, Cond.static arraycopyName, Cond.initialized "java/lang/System", Cond.fieldLink RX3 18 "GoalLifts$House" "cars" "LGoalLifts$Cars;", Cond.fieldLink RX3 25 "GoalLifts$House" "callers" "LGoalLifts$Callers;", Cond.methodLink RX3 39 yX1_copyFrom, Cond.instanceMethod yX1_copyFrom, Cond.selects RX1 yX1_copyFrom yX1_copyFrom, Cond.initialized RX1, Cond.code yX1_copyFrom cX1_copyFrom 2 none, Cond.fieldLink RX1 30 "GoalLifts$Cars" "count" "I", Cond.fieldLink RX1 34 "GoalLifts$Cars" "stopsMade" "I", Cond.fieldLink RX1 9 "GoalLifts$Cars" "lowest" "[I", Cond.methodLink RX1 37 arraycopyName, Cond.fieldLink RX1 15 "GoalLifts$Cars" "highest" "[I", Cond.fieldLink RX1 18 "GoalLifts$Cars" "places" "[I", Cond.fieldLink RX1 21 "GoalLifts$Cars" "floor" "[I", Cond.fieldLink RX1 24 "GoalLifts$Cars" "state" "[I", Cond.fieldLink RX1 27 "GoalLifts$Cars" "travelled" "[I", Cond.methodLink RX3 43 yX0_copyFrom, Cond.instanceMethod yX0_copyFrom]
def wsX3_copyFrom_r2 : List Cond := [Cond.selects RX0 yX0_copyFrom yX0_copyFrom, Cond.initialized RX0, Cond.code yX0_copyFrom cX0_copyFrom 2 none, Cond.fieldLink RX0 36 "GoalLifts$Callers" "count" "I", Cond.fieldLink RX0 9 "GoalLifts$Callers" "floor" "[I", Cond.methodLink RX0 40 arraycopyName, Cond.fieldLink RX0 15 "GoalLifts$Callers" "goal" "[I", Cond.fieldLink RX0 18 "GoalLifts$Callers" "phase" "[I", Cond.fieldLink RX0 21 "GoalLifts$Callers" "given" "[I", Cond.fieldLink RX0 24 "GoalLifts$Callers" "calledAt" "[I", Cond.fieldLink RX0 27 "GoalLifts$Callers" "rodeAt" "[I", Cond.fieldLink RX0 30 "GoalLifts$Callers" "thereAt" "[I", Cond.fieldLink RX0 33 "GoalLifts$Callers" "timesGiven" "[I"]
def wsX3_copyFrom : List Cond := .code yX3_copyFrom cX3_copyFrom 2 none :: ((wsX3_copyFrom_r1 ++ wsX3_copyFrom_r2) ++ wsX30 ++ wsX10 ++ wsX00)
def wsJ9_floorMod_7cf53 : List Cond := .code yJ9_floorMod_7cf53 cJ9_floorMod_7cf53 3 (some .int) :: ([])
def wsX2_keep_r1 : List Cond := [Cond.fieldLink RX2 11 "GoalLifts$History" "states" "[LGoalLifts$House;", Cond.fieldLink RX2 18 "GoalLifts$History" "next" "I", Cond.fieldLink RX2 32 "GoalLifts$History" "count" "I", Cond.methodLink RX2 35 Lib.Math.min.name, Cond.static Lib.Math.min.name, Cond.initialized "java/lang/Math", Cond.code Lib.Math.min.name Lib.Math.min.code 2 (some .int), Cond.methodLink RX2 22 yX3_copyFrom, Cond.instanceMethod yX3_copyFrom, Cond.selects RX3 yX3_copyFrom yX3_copyFrom, Cond.initialized RX3, Cond.code yX3_copyFrom cX3_copyFrom 2 none, Cond.fieldLink RX3 29 "GoalLifts$House" "tick" "I", Cond.fieldLink RX3 9 "GoalLifts$House" "awake" "[I", Cond.methodLink RX3 33 arraycopyName, Cond.native arraycopyName, Cond.static arraycopyName, Cond.initialized "java/lang/System", Cond.fieldLink RX3 18 "GoalLifts$House" "cars" "LGoalLifts$Cars;", Cond.fieldLink RX3 25 "GoalLifts$House" "callers" "LGoalLifts$Callers;", Cond.methodLink RX3 39 yX1_copyFrom, Cond.instanceMethod yX1_copyFrom, Cond.selects RX1 yX1_copyFrom yX1_copyFrom, Cond.initialized RX1]
def wsX2_keep_r2 : List Cond := [Cond.code yX1_copyFrom cX1_copyFrom 2 none, Cond.fieldLink RX1 30 "GoalLifts$Cars" "count" "I", Cond.fieldLink RX1 34 "GoalLifts$Cars" "stopsMade" "I", Cond.fieldLink RX1 9 "GoalLifts$Cars" "lowest" "[I", Cond.methodLink RX1 37 arraycopyName, Cond.fieldLink RX1 15 "GoalLifts$Cars" "highest" "[I", Cond.fieldLink RX1 18 "GoalLifts$Cars" "places" "[I", Cond.fieldLink RX1 21 "GoalLifts$Cars" "floor" "[I", Cond.fieldLink RX1 24 "GoalLifts$Cars" "state" "[I", Cond.fieldLink RX1 27 "GoalLifts$Cars" "travelled" "[I", Cond.methodLink RX3 43 yX0_copyFrom, Cond.instanceMethod yX0_copyFrom, Cond.selects RX0 yX0_copyFrom yX0_copyFrom, Cond.initialized RX0, Cond.code yX0_copyFrom cX0_copyFrom 2 none, Cond.fieldLink RX0 36 "GoalLifts$Callers" "count" "I", Cond.fieldLink RX0 9 "GoalLifts$Callers" "floor" "[I", Cond.methodLink RX0 40 arraycopyName, Cond.fieldLink RX0 15 "GoalLifts$Callers" "goal" "[I", Cond.fieldLink RX0 18 "GoalLifts$Callers" "phase" "[I", Cond.fieldLink RX0 21 "GoalLifts$Callers" "given" "[I", Cond.fieldLink RX0 24 "GoalLifts$Callers" "calledAt" "[I", Cond.fieldLink RX0 27 "GoalLifts$Callers" "rodeAt" "[I", Cond.fieldLink RX0 30 "GoalLifts$Callers" "thereAt" "[I"]
def wsX2_keep_r3 : List Cond := [Cond.fieldLink RX0 33 "GoalLifts$Callers" "timesGiven" "[I", Cond.methodLink RX2 26 yJ9_floorMod_7cf53, Cond.static yJ9_floorMod_7cf53, Cond.initialized RJ9, Cond.code yJ9_floorMod_7cf53 cJ9_floorMod_7cf53 3 (some .int)]
def wsX2_keep : List Cond := .code yX2_keep cX2_keep 3 none :: ((wsX2_keep_r1 ++ (wsX2_keep_r2 ++ wsX2_keep_r3)) ++ wsX20 ++ wsX30 ++ wsX10 ++ wsX00)
def wsX2_restore_r1 : List Cond := [Cond.fieldLink RX2 18 "GoalLifts$History" "next" "I", Cond.fieldLink RX2 11 "GoalLifts$History" "states" "[LGoalLifts$House;", Cond.fieldLink RX2 32 "GoalLifts$History" "count" "I", Cond.methodLink RX2 26 yJ9_floorMod_7cf53, Cond.static yJ9_floorMod_7cf53, Cond.initialized RJ9, Cond.code yJ9_floorMod_7cf53 cJ9_floorMod_7cf53 3 (some .int), Cond.methodLink RX2 22 yX3_copyFrom, Cond.instanceMethod yX3_copyFrom, Cond.selects RX3 yX3_copyFrom yX3_copyFrom, Cond.initialized RX3, Cond.code yX3_copyFrom cX3_copyFrom 2 none, Cond.fieldLink RX3 29 "GoalLifts$House" "tick" "I", Cond.fieldLink RX3 9 "GoalLifts$House" "awake" "[I", Cond.methodLink RX3 33 arraycopyName, Cond.native arraycopyName, Cond.static arraycopyName, Cond.initialized "java/lang/System", Cond.fieldLink RX3 18 "GoalLifts$House" "cars" "LGoalLifts$Cars;", Cond.fieldLink RX3 25 "GoalLifts$House" "callers" "LGoalLifts$Callers;", Cond.methodLink RX3 39 yX1_copyFrom, Cond.instanceMethod yX1_copyFrom, Cond.selects RX1 yX1_copyFrom yX1_copyFrom, Cond.initialized RX1]
def wsX2_restore_r2 : List Cond := [Cond.code yX1_copyFrom cX1_copyFrom 2 none, Cond.fieldLink RX1 30 "GoalLifts$Cars" "count" "I", Cond.fieldLink RX1 34 "GoalLifts$Cars" "stopsMade" "I", Cond.fieldLink RX1 9 "GoalLifts$Cars" "lowest" "[I", Cond.methodLink RX1 37 arraycopyName, Cond.fieldLink RX1 15 "GoalLifts$Cars" "highest" "[I", Cond.fieldLink RX1 18 "GoalLifts$Cars" "places" "[I", Cond.fieldLink RX1 21 "GoalLifts$Cars" "floor" "[I", Cond.fieldLink RX1 24 "GoalLifts$Cars" "state" "[I", Cond.fieldLink RX1 27 "GoalLifts$Cars" "travelled" "[I", Cond.methodLink RX3 43 yX0_copyFrom, Cond.instanceMethod yX0_copyFrom, Cond.selects RX0 yX0_copyFrom yX0_copyFrom, Cond.initialized RX0, Cond.code yX0_copyFrom cX0_copyFrom 2 none, Cond.fieldLink RX0 36 "GoalLifts$Callers" "count" "I", Cond.fieldLink RX0 9 "GoalLifts$Callers" "floor" "[I", Cond.methodLink RX0 40 arraycopyName, Cond.fieldLink RX0 15 "GoalLifts$Callers" "goal" "[I", Cond.fieldLink RX0 18 "GoalLifts$Callers" "phase" "[I", Cond.fieldLink RX0 21 "GoalLifts$Callers" "given" "[I", Cond.fieldLink RX0 24 "GoalLifts$Callers" "calledAt" "[I", Cond.fieldLink RX0 27 "GoalLifts$Callers" "rodeAt" "[I", Cond.fieldLink RX0 30 "GoalLifts$Callers" "thereAt" "[I"]
def wsX2_restore_r3 : List Cond := [Cond.fieldLink RX0 33 "GoalLifts$Callers" "timesGiven" "[I"]
def wsX2_restore : List Cond := .code yX2_restore cX2_restore 4 none :: ((wsX2_restore_r1 ++ (wsX2_restore_r2 ++ wsX2_restore_r3)) ++ wsX20 ++ wsX30 ++ wsX10 ++ wsX00)
def wsX3_hour : List Cond := .code yX3_hour cX3_hour 1 (some .int) :: ([.fieldLink RX3 29 "GoalLifts$House" "tick" "I", .methodLink RX3 46 yJ9_floorMod_7cf53, .static yJ9_floorMod_7cf53, .initialized RJ9, .code yJ9_floorMod_7cf53 cJ9_floorMod_7cf53 3 (some .int)] ++ wsX30)
def wsX3_isAwake : List Cond := .code yX3_isAwake cX3_isAwake 2 (some .boolean) :: ([.fieldLink RX3 9 "GoalLifts$House" "awake" "[I", .methodLink RX3 52 yX3_hour, .instanceMethod yX3_hour, .selects RX3 yX3_hour yX3_hour, .initialized RX3, .code yX3_hour cX3_hour 1 (some .int), .fieldLink RX3 29 "GoalLifts$House" "tick" "I", .methodLink RX3 46 yJ9_floorMod_7cf53, .static yJ9_floorMod_7cf53, .initialized RJ9, .code yJ9_floorMod_7cf53 cJ9_floorMod_7cf53 3 (some .int)] ++ wsX30)
def wsX3_canBeGiven : List Cond := .code yX3_canBeGiven cX3_canBeGiven 4 (some .boolean) :: ([.fieldLink RX3 18 "GoalLifts$House" "cars" "LGoalLifts$Cars;", .fieldLink RX3 56 "GoalLifts$Cars" "state" "[I", .methodLink RX3 59 yX3_isAwake, .instanceMethod yX3_isAwake, .selects RX3 yX3_isAwake yX3_isAwake, .initialized RX3, .code yX3_isAwake cX3_isAwake 2 (some .boolean), .fieldLink RX3 9 "GoalLifts$House" "awake" "[I", .methodLink RX3 52 yX3_hour, .instanceMethod yX3_hour, .selects RX3 yX3_hour yX3_hour, .code yX3_hour cX3_hour 1 (some .int), .fieldLink RX3 29 "GoalLifts$House" "tick" "I", .methodLink RX3 46 yJ9_floorMod_7cf53, .static yJ9_floorMod_7cf53, .initialized RJ9, .code yJ9_floorMod_7cf53 cJ9_floorMod_7cf53 3 (some .int), .methodLink RX3 63 yX1_serves, .instanceMethod yX1_serves, .selects RX1 yX1_serves yX1_serves, .initialized RX1, .code yX1_serves cX1_serves 3 (some .boolean), .fieldLink RX1 9 "GoalLifts$Cars" "lowest" "[I", .fieldLink RX1 15 "GoalLifts$Cars" "highest" "[I"] ++ wsX30 ++ wsX10)
def wsJ6_bitCount_0f7a4 : List Cond := .code yJ6_bitCount_0f7a4 cJ6_bitCount_0f7a4 1 (some .int) :: ([.constant RJ6 265 (1431655765), .constant RJ6 266 (858993459), .constant RJ6 267 (252645135)])
def wsX3_costOf_r1 : List Cond := [Cond.fieldLink RX3 18 "GoalLifts$House" "cars" "LGoalLifts$Cars;", Cond.fieldLink RX3 67 "GoalLifts$Cars" "floor" "[I", Cond.methodLink RX3 70 Lib.Math.abs.name, Cond.static Lib.Math.abs.name, Cond.initialized "java/lang/Math", Cond.code Lib.Math.abs.name Lib.Math.abs.code 1 (some .int), Cond.fieldLink RX3 25 "GoalLifts$House" "callers" "LGoalLifts$Callers;", Cond.methodLink RX3 74 yX0_stopsOf, Cond.instanceMethod yX0_stopsOf, Cond.selects RX0 yX0_stopsOf yX0_stopsOf, Cond.initialized RX0, Cond.code yX0_stopsOf cX0_stopsOf 4 (some .int), Cond.fieldLink RX0 36 "GoalLifts$Callers" "count" "I", Cond.fieldLink RX0 9 "GoalLifts$Callers" "floor" "[I", Cond.fieldLink RX0 15 "GoalLifts$Callers" "goal" "[I", Cond.methodLink RX0 54 yX0_waitsFor, Cond.instanceMethod yX0_waitsFor, Cond.selects RX0 yX0_waitsFor yX0_waitsFor, Cond.code yX0_waitsFor cX0_waitsFor 3 (some .boolean), Cond.fieldLink RX0 18 "GoalLifts$Callers" "phase" "[I", Cond.fieldLink RX0 21 "GoalLifts$Callers" "given" "[I", Cond.methodLink RX0 58 yX0_rides, Cond.instanceMethod yX0_rides, Cond.selects RX0 yX0_rides yX0_rides]
def wsX3_costOf_r2 : List Cond := [Cond.code yX0_rides cX0_rides 3 (some .boolean), Cond.methodLink RX3 77 yJ6_bitCount_0f7a4, Cond.static yJ6_bitCount_0f7a4, Cond.initialized RJ6, Cond.code yJ6_bitCount_0f7a4 cJ6_bitCount_0f7a4 1 (some .int), Cond.constant RJ6 265 (1431655765), Cond.constant RJ6 266 (858993459), Cond.constant RJ6 267 (252645135), Cond.methodLink RX3 82 yX0_numberWith, Cond.instanceMethod yX0_numberWith, Cond.selects RX0 yX0_numberWith yX0_numberWith, Cond.code yX0_numberWith cX0_numberWith 2 (some .int), Cond.methodLink RX0 50 yX0_numberOf, Cond.instanceMethod yX0_numberOf, Cond.selects RX0 yX0_numberOf yX0_numberOf, Cond.code yX0_numberOf cX0_numberOf 5 (some .int)]
def wsX3_costOf : List Cond := .code yX3_costOf cX3_costOf 6 (some .int) :: ((wsX3_costOf_r1 ++ wsX3_costOf_r2) ++ wsX30 ++ wsX10 ++ wsX00)
def wsX3_bestCar_r1 : List Cond := [Cond.fieldLink RX3 18 "GoalLifts$House" "cars" "LGoalLifts$Cars;", Cond.fieldLink RX3 85 "GoalLifts$Cars" "count" "I", Cond.methodLink RX3 88 yX3_canBeGiven, Cond.instanceMethod yX3_canBeGiven, Cond.selects RX3 yX3_canBeGiven yX3_canBeGiven, Cond.initialized RX3, Cond.code yX3_canBeGiven cX3_canBeGiven 4 (some .boolean), Cond.fieldLink RX3 56 "GoalLifts$Cars" "state" "[I", Cond.methodLink RX3 59 yX3_isAwake, Cond.instanceMethod yX3_isAwake, Cond.selects RX3 yX3_isAwake yX3_isAwake, Cond.code yX3_isAwake cX3_isAwake 2 (some .boolean), Cond.fieldLink RX3 9 "GoalLifts$House" "awake" "[I", Cond.methodLink RX3 52 yX3_hour, Cond.instanceMethod yX3_hour, Cond.selects RX3 yX3_hour yX3_hour, Cond.code yX3_hour cX3_hour 1 (some .int), Cond.fieldLink RX3 29 "GoalLifts$House" "tick" "I", Cond.methodLink RX3 46 yJ9_floorMod_7cf53, Cond.static yJ9_floorMod_7cf53, Cond.initialized RJ9, Cond.code yJ9_floorMod_7cf53 cJ9_floorMod_7cf53 3 (some .int), Cond.methodLink RX3 63 yX1_serves, Cond.instanceMethod yX1_serves]
def wsX3_bestCar_r2 : List Cond := [Cond.selects RX1 yX1_serves yX1_serves, Cond.initialized RX1, Cond.code yX1_serves cX1_serves 3 (some .boolean), Cond.fieldLink RX1 9 "GoalLifts$Cars" "lowest" "[I", Cond.fieldLink RX1 15 "GoalLifts$Cars" "highest" "[I", Cond.methodLink RX3 92 yX3_costOf, Cond.instanceMethod yX3_costOf, Cond.selects RX3 yX3_costOf yX3_costOf, Cond.code yX3_costOf cX3_costOf 6 (some .int), Cond.fieldLink RX3 67 "GoalLifts$Cars" "floor" "[I", Cond.methodLink RX3 70 Lib.Math.abs.name, Cond.static Lib.Math.abs.name, Cond.initialized "java/lang/Math", Cond.code Lib.Math.abs.name Lib.Math.abs.code 1 (some .int), Cond.fieldLink RX3 25 "GoalLifts$House" "callers" "LGoalLifts$Callers;", Cond.methodLink RX3 74 yX0_stopsOf, Cond.instanceMethod yX0_stopsOf, Cond.selects RX0 yX0_stopsOf yX0_stopsOf, Cond.initialized RX0, Cond.code yX0_stopsOf cX0_stopsOf 4 (some .int), Cond.fieldLink RX0 36 "GoalLifts$Callers" "count" "I", Cond.fieldLink RX0 9 "GoalLifts$Callers" "floor" "[I", Cond.fieldLink RX0 15 "GoalLifts$Callers" "goal" "[I", Cond.methodLink RX0 54 yX0_waitsFor]
def wsX3_bestCar_r3 : List Cond := [Cond.instanceMethod yX0_waitsFor, Cond.selects RX0 yX0_waitsFor yX0_waitsFor, Cond.code yX0_waitsFor cX0_waitsFor 3 (some .boolean), Cond.fieldLink RX0 18 "GoalLifts$Callers" "phase" "[I", Cond.fieldLink RX0 21 "GoalLifts$Callers" "given" "[I", Cond.methodLink RX0 58 yX0_rides, Cond.instanceMethod yX0_rides, Cond.selects RX0 yX0_rides yX0_rides, Cond.code yX0_rides cX0_rides 3 (some .boolean), Cond.methodLink RX3 77 yJ6_bitCount_0f7a4, Cond.static yJ6_bitCount_0f7a4, Cond.initialized RJ6, Cond.code yJ6_bitCount_0f7a4 cJ6_bitCount_0f7a4 1 (some .int), Cond.constant RJ6 265 (1431655765), Cond.constant RJ6 266 (858993459), Cond.constant RJ6 267 (252645135), Cond.methodLink RX3 82 yX0_numberWith, Cond.instanceMethod yX0_numberWith, Cond.selects RX0 yX0_numberWith yX0_numberWith, Cond.code yX0_numberWith cX0_numberWith 2 (some .int), Cond.methodLink RX0 50 yX0_numberOf, Cond.instanceMethod yX0_numberOf, Cond.selects RX0 yX0_numberOf yX0_numberOf, Cond.code yX0_numberOf cX0_numberOf 5 (some .int)]
def wsX3_bestCar : List Cond := .code yX3_bestCar cX3_bestCar 7 (some .int) :: ((wsX3_bestCar_r1 ++ (wsX3_bestCar_r2 ++ wsX3_bestCar_r3)) ++ wsX30 ++ wsX10 ++ wsX00)
def wsX3_stopOrTravel_r1 : List Cond := [Cond.fieldLink RX3 18 "GoalLifts$House" "cars" "LGoalLifts$Cars;", Cond.fieldLink RX3 67 "GoalLifts$Cars" "floor" "[I", Cond.fieldLink RX3 25 "GoalLifts$House" "callers" "LGoalLifts$Callers;", Cond.fieldLink RX3 29 "GoalLifts$House" "tick" "I", Cond.fieldLink RX3 118 "GoalLifts$Cars" "places" "[I", Cond.fieldLink RX3 125 "GoalLifts$Cars" "stopsMade" "I", Cond.methodLink RX3 115 yX0_letOut, Cond.instanceMethod yX0_letOut, Cond.selects RX0 yX0_letOut yX0_letOut, Cond.initialized RX0, Cond.code yX0_letOut cX0_letOut 6 (some .int), Cond.fieldLink RX0 36 "GoalLifts$Callers" "count" "I", Cond.fieldLink RX0 15 "GoalLifts$Callers" "goal" "[I", Cond.fieldLink RX0 18 "GoalLifts$Callers" "phase" "[I", Cond.fieldLink RX0 30 "GoalLifts$Callers" "thereAt" "[I", Cond.methodLink RX0 58 yX0_rides, Cond.instanceMethod yX0_rides, Cond.selects RX0 yX0_rides yX0_rides, Cond.code yX0_rides cX0_rides 3 (some .boolean), Cond.fieldLink RX0 21 "GoalLifts$Callers" "given" "[I", Cond.methodLink RX3 121 yX0_takeIn, Cond.instanceMethod yX0_takeIn, Cond.selects RX0 yX0_takeIn yX0_takeIn, Cond.code yX0_takeIn cX0_takeIn 8 (some .int)]
def wsX3_stopOrTravel_r2 : List Cond := [Cond.fieldLink RX0 9 "GoalLifts$Callers" "floor" "[I", Cond.fieldLink RX0 27 "GoalLifts$Callers" "rodeAt" "[I", Cond.methodLink RX0 50 yX0_numberOf, Cond.instanceMethod yX0_numberOf, Cond.selects RX0 yX0_numberOf yX0_numberOf, Cond.code yX0_numberOf cX0_numberOf 5 (some .int), Cond.methodLink RX0 54 yX0_waitsFor, Cond.instanceMethod yX0_waitsFor, Cond.selects RX0 yX0_waitsFor yX0_waitsFor, Cond.code yX0_waitsFor cX0_waitsFor 3 (some .boolean), Cond.methodLink RX3 128 yX0_aimOf, Cond.instanceMethod yX0_aimOf, Cond.selects RX0 yX0_aimOf yX0_aimOf, Cond.code yX0_aimOf cX0_aimOf 6 (some .int), Cond.methodLink RX0 61 yX0_isNearer, Cond.static yX0_isNearer, Cond.code yX0_isNearer cX0_isNearer 5 (some .boolean), Cond.methodLink RX0 65 Lib.Math.abs.name, Cond.static Lib.Math.abs.name, Cond.initialized "java/lang/Math", Cond.code Lib.Math.abs.name Lib.Math.abs.code 1 (some .int), Cond.methodLink RX3 131 yX1_travelTowards, Cond.instanceMethod yX1_travelTowards, Cond.selects RX1 yX1_travelTowards yX1_travelTowards]
def wsX3_stopOrTravel_r3 : List Cond := [Cond.initialized RX1, Cond.code yX1_travelTowards cX1_travelTowards 3 none, Cond.fieldLink RX1 21 "GoalLifts$Cars" "floor" "[I", Cond.fieldLink RX1 27 "GoalLifts$Cars" "travelled" "[I"]
def wsX3_stopOrTravel : List Cond := .code yX3_stopOrTravel cX3_stopOrTravel 6 none :: ((wsX3_stopOrTravel_r1 ++ (wsX3_stopOrTravel_r2 ++ wsX3_stopOrTravel_r3)) ++ wsX30 ++ wsX10 ++ wsX00)
def wsX3_oneTick_r1 : List Cond := [Cond.fieldLink RX3 25 "GoalLifts$House" "callers" "LGoalLifts$Callers;", Cond.fieldLink RX3 96 "GoalLifts$Callers" "count" "I", Cond.fieldLink RX3 97 "GoalLifts$Callers" "phase" "[I", Cond.fieldLink RX3 100 "GoalLifts$Callers" "floor" "[I", Cond.fieldLink RX3 101 "GoalLifts$Callers" "goal" "[I", Cond.fieldLink RX3 18 "GoalLifts$House" "cars" "LGoalLifts$Cars;", Cond.fieldLink RX3 85 "GoalLifts$Cars" "count" "I", Cond.fieldLink RX3 56 "GoalLifts$Cars" "state" "[I", Cond.fieldLink RX3 29 "GoalLifts$House" "tick" "I", Cond.methodLink RX3 104 yX3_bestCar, Cond.instanceMethod yX3_bestCar, Cond.selects RX3 yX3_bestCar yX3_bestCar, Cond.initialized RX3, Cond.code yX3_bestCar cX3_bestCar 7 (some .int), Cond.methodLink RX3 88 yX3_canBeGiven, Cond.instanceMethod yX3_canBeGiven, Cond.selects RX3 yX3_canBeGiven yX3_canBeGiven, Cond.code yX3_canBeGiven cX3_canBeGiven 4 (some .boolean), Cond.methodLink RX3 59 yX3_isAwake, Cond.instanceMethod yX3_isAwake, Cond.selects RX3 yX3_isAwake yX3_isAwake, Cond.code yX3_isAwake cX3_isAwake 2 (some .boolean), Cond.fieldLink RX3 9 "GoalLifts$House" "awake" "[I", Cond.methodLink RX3 52 yX3_hour]
def wsX3_oneTick_r2 : List Cond := [Cond.instanceMethod yX3_hour, Cond.selects RX3 yX3_hour yX3_hour, Cond.code yX3_hour cX3_hour 1 (some .int), Cond.methodLink RX3 46 yJ9_floorMod_7cf53, Cond.static yJ9_floorMod_7cf53, Cond.initialized RJ9, Cond.code yJ9_floorMod_7cf53 cJ9_floorMod_7cf53 3 (some .int), Cond.methodLink RX3 63 yX1_serves, Cond.instanceMethod yX1_serves, Cond.selects RX1 yX1_serves yX1_serves, Cond.initialized RX1, Cond.code yX1_serves cX1_serves 3 (some .boolean), Cond.fieldLink RX1 9 "GoalLifts$Cars" "lowest" "[I", Cond.fieldLink RX1 15 "GoalLifts$Cars" "highest" "[I", Cond.methodLink RX3 92 yX3_costOf, Cond.instanceMethod yX3_costOf, Cond.selects RX3 yX3_costOf yX3_costOf, Cond.code yX3_costOf cX3_costOf 6 (some .int), Cond.fieldLink RX3 67 "GoalLifts$Cars" "floor" "[I", Cond.methodLink RX3 70 Lib.Math.abs.name, Cond.static Lib.Math.abs.name, Cond.initialized "java/lang/Math", Cond.code Lib.Math.abs.name Lib.Math.abs.code 1 (some .int), Cond.methodLink RX3 74 yX0_stopsOf]
def wsX3_oneTick_r3 : List Cond := [Cond.instanceMethod yX0_stopsOf, Cond.selects RX0 yX0_stopsOf yX0_stopsOf, Cond.initialized RX0, Cond.code yX0_stopsOf cX0_stopsOf 4 (some .int), Cond.fieldLink RX0 36 "GoalLifts$Callers" "count" "I", Cond.fieldLink RX0 9 "GoalLifts$Callers" "floor" "[I", Cond.fieldLink RX0 15 "GoalLifts$Callers" "goal" "[I", Cond.methodLink RX0 54 yX0_waitsFor, Cond.instanceMethod yX0_waitsFor, Cond.selects RX0 yX0_waitsFor yX0_waitsFor, Cond.code yX0_waitsFor cX0_waitsFor 3 (some .boolean), Cond.fieldLink RX0 18 "GoalLifts$Callers" "phase" "[I", Cond.fieldLink RX0 21 "GoalLifts$Callers" "given" "[I", Cond.methodLink RX0 58 yX0_rides, Cond.instanceMethod yX0_rides, Cond.selects RX0 yX0_rides yX0_rides, Cond.code yX0_rides cX0_rides 3 (some .boolean), Cond.methodLink RX3 77 yJ6_bitCount_0f7a4, Cond.static yJ6_bitCount_0f7a4, Cond.initialized RJ6, Cond.code yJ6_bitCount_0f7a4 cJ6_bitCount_0f7a4 1 (some .int), Cond.constant RJ6 265 (1431655765), Cond.constant RJ6 266 (858993459), Cond.constant RJ6 267 (252645135)]
def wsX3_oneTick_r4 : List Cond := [Cond.methodLink RX3 82 yX0_numberWith, Cond.instanceMethod yX0_numberWith, Cond.selects RX0 yX0_numberWith yX0_numberWith, Cond.code yX0_numberWith cX0_numberWith 2 (some .int), Cond.methodLink RX0 50 yX0_numberOf, Cond.instanceMethod yX0_numberOf, Cond.selects RX0 yX0_numberOf yX0_numberOf, Cond.code yX0_numberOf cX0_numberOf 5 (some .int), Cond.methodLink RX3 107 yX0_give, Cond.instanceMethod yX0_give, Cond.selects RX0 yX0_give yX0_give, Cond.code yX0_give cX0_give 3 none, Cond.fieldLink RX0 33 "GoalLifts$Callers" "timesGiven" "[I", Cond.methodLink RX0 46 yX0_has, Cond.instanceMethod yX0_has, Cond.selects RX0 yX0_has yX0_has, Cond.code yX0_has cX0_has 2 (some .boolean), Cond.methodLink RX3 111 yX3_stopOrTravel, Cond.instanceMethod yX3_stopOrTravel, Cond.selects RX3 yX3_stopOrTravel yX3_stopOrTravel, Cond.code yX3_stopOrTravel cX3_stopOrTravel 6 none, Cond.fieldLink RX3 118 "GoalLifts$Cars" "places" "[I", Cond.fieldLink RX3 125 "GoalLifts$Cars" "stopsMade" "I", Cond.methodLink RX3 115 yX0_letOut]
def wsX3_oneTick_r5 : List Cond := [Cond.instanceMethod yX0_letOut, Cond.selects RX0 yX0_letOut yX0_letOut, Cond.code yX0_letOut cX0_letOut 6 (some .int), Cond.fieldLink RX0 30 "GoalLifts$Callers" "thereAt" "[I", Cond.methodLink RX3 121 yX0_takeIn, Cond.instanceMethod yX0_takeIn, Cond.selects RX0 yX0_takeIn yX0_takeIn, Cond.code yX0_takeIn cX0_takeIn 8 (some .int), Cond.fieldLink RX0 27 "GoalLifts$Callers" "rodeAt" "[I", Cond.methodLink RX3 128 yX0_aimOf, Cond.instanceMethod yX0_aimOf, Cond.selects RX0 yX0_aimOf yX0_aimOf, Cond.code yX0_aimOf cX0_aimOf 6 (some .int), Cond.methodLink RX0 61 yX0_isNearer, Cond.static yX0_isNearer, Cond.code yX0_isNearer cX0_isNearer 5 (some .boolean), Cond.methodLink RX0 65 Lib.Math.abs.name, Cond.methodLink RX3 131 yX1_travelTowards, Cond.instanceMethod yX1_travelTowards, Cond.selects RX1 yX1_travelTowards yX1_travelTowards, Cond.code yX1_travelTowards cX1_travelTowards 3 none, Cond.fieldLink RX1 21 "GoalLifts$Cars" "floor" "[I", Cond.fieldLink RX1 27 "GoalLifts$Cars" "travelled" "[I"]
def wsX3_oneTick : List Cond := .code yX3_oneTick cX3_oneTick 2 none :: ((wsX3_oneTick_r1 ++ (wsX3_oneTick_r2 ++ (wsX3_oneTick_r3 ++ (wsX3_oneTick_r4 ++ wsX3_oneTick_r5)))) ++ wsX30 ++ wsX00 ++ wsX10)
def wsX3_breakCar : List Cond := .code yX3_breakCar cX3_breakCar 2 none :: ([.fieldLink RX3 18 "GoalLifts$House" "cars" "LGoalLifts$Cars;", .fieldLink RX3 56 "GoalLifts$Cars" "state" "[I", .fieldLink RX3 25 "GoalLifts$House" "callers" "LGoalLifts$Callers;", .fieldLink RX3 67 "GoalLifts$Cars" "floor" "[I", .fieldLink RX3 29 "GoalLifts$House" "tick" "I", .methodLink RX3 134 yX0_loseCar, .instanceMethod yX0_loseCar, .selects RX0 yX0_loseCar yX0_loseCar, .initialized RX0, .code yX0_loseCar cX0_loseCar 6 none, .fieldLink RX0 36 "GoalLifts$Callers" "count" "I", .fieldLink RX0 9 "GoalLifts$Callers" "floor" "[I", .fieldLink RX0 15 "GoalLifts$Callers" "goal" "[I", .fieldLink RX0 18 "GoalLifts$Callers" "phase" "[I", .fieldLink RX0 30 "GoalLifts$Callers" "thereAt" "[I", .fieldLink RX0 21 "GoalLifts$Callers" "given" "[I", .methodLink RX0 58 yX0_rides, .instanceMethod yX0_rides, .selects RX0 yX0_rides yX0_rides, .code yX0_rides cX0_rides 3 (some .boolean), .methodLink RX0 54 yX0_waitsFor, .instanceMethod yX0_waitsFor, .selects RX0 yX0_waitsFor yX0_waitsFor, .code yX0_waitsFor cX0_waitsFor 3 (some .boolean)] ++ wsX30 ++ wsX10 ++ wsX00)
def wsX4_init_r1 : List Cond := [Cond.methodLink RX4 1 objectInit, Cond.instanceMethod objectInit, Cond.code objectInit ⟨#[0xb1]⟩ 1 none, Cond.classLink RX4 7 RX3, Cond.instantiable RX3 4, Cond.initialized RX3, Cond.fieldLink RX4 10 "GoalLifts" "house" "LGoalLifts$House;", Cond.fieldLink RX4 16 "GoalLifts" "forecast" "LGoalLifts$House;", Cond.classLink RX4 19 RX2, Cond.instantiable RX2 3, Cond.initialized RX2, Cond.fieldLink RX4 22 "GoalLifts" "history" "LGoalLifts$History;", Cond.methodLink RX4 9 yX3_init, Cond.instanceMethod yX3_init, Cond.code yX3_init cX3_init 2 none, Cond.methodLink RX3 3 objectInit, Cond.arrayClass .int, Cond.fieldLink RX3 9 "GoalLifts$House" "awake" "[I", Cond.classLink RX3 15 RX1, Cond.instantiable RX1 8, Cond.initialized RX1, Cond.fieldLink RX3 18 "GoalLifts$House" "cars" "LGoalLifts$Cars;", Cond.classLink RX3 22 RX0, Cond.instantiable RX0 9]
def wsX4_init_r2 : List Cond := [Cond.initialized RX0, Cond.fieldLink RX3 25 "GoalLifts$House" "callers" "LGoalLifts$Callers;", Cond.instanceMethod yX1_init, Cond.code yX1_init cX1_init 1 none, Cond.methodLink RX1 3 objectInit, Cond.fieldLink RX1 9 "GoalLifts$Cars" "lowest" "[I", Cond.fieldLink RX1 15 "GoalLifts$Cars" "highest" "[I", Cond.fieldLink RX1 18 "GoalLifts$Cars" "places" "[I", Cond.fieldLink RX1 21 "GoalLifts$Cars" "floor" "[I", Cond.fieldLink RX1 24 "GoalLifts$Cars" "state" "[I", Cond.fieldLink RX1 27 "GoalLifts$Cars" "travelled" "[I", Cond.instanceMethod yX0_init, Cond.code yX0_init cX0_init 1 none, Cond.methodLink RX0 3 objectInit, Cond.fieldLink RX0 9 "GoalLifts$Callers" "floor" "[I", Cond.fieldLink RX0 15 "GoalLifts$Callers" "goal" "[I", Cond.fieldLink RX0 18 "GoalLifts$Callers" "phase" "[I", Cond.fieldLink RX0 21 "GoalLifts$Callers" "given" "[I", Cond.fieldLink RX0 24 "GoalLifts$Callers" "calledAt" "[I", Cond.fieldLink RX0 27 "GoalLifts$Callers" "rodeAt" "[I", Cond.fieldLink RX0 30 "GoalLifts$Callers" "thereAt" "[I", Cond.fieldLink RX0 33 "GoalLifts$Callers" "timesGiven" "[I", Cond.methodLink RX4 21 yX2_init, Cond.instanceMethod yX2_init]
def wsX4_init_r3 : List Cond := [Cond.code yX2_init cX2_init 2 none, Cond.methodLink RX2 3 objectInit, Cond.classLink RX2 9 RX3, Cond.fieldLink RX2 11 "GoalLifts$History" "states" "[LGoalLifts$House;", Cond.methodLink RX2 17 yX3_init]
def wsX4_init : List Cond := .code yX4_init cX4_init 1 none :: ((wsX4_init_r1 ++ (wsX4_init_r2 ++ wsX4_init_r3)) ++ wsX30 ++ wsX40 ++ wsX20 ++ wsX10 ++ wsX00)
def wsX4_isFloor : List Cond := .code yX4_isFloor cX4_isFloor 1 (some .boolean) :: ([])
def wsX4_addCar_r1 : List Cond := [Cond.fieldLink RX4 10 "GoalLifts" "house" "LGoalLifts$House;", Cond.fieldLink RX4 30 "GoalLifts$House" "cars" "LGoalLifts$Cars;", Cond.fieldLink RX4 34 "GoalLifts$Cars" "count" "I", Cond.fieldLink RX4 22 "GoalLifts" "history" "LGoalLifts$History;", Cond.methodLink RX4 26 yX4_isFloor, Cond.static yX4_isFloor, Cond.initialized RX4, Cond.code yX4_isFloor cX4_isFloor 1 (some .boolean), Cond.methodLink RX4 40 yX2_keep, Cond.instanceMethod yX2_keep, Cond.selects RX2 yX2_keep yX2_keep, Cond.initialized RX2, Cond.code yX2_keep cX2_keep 3 none, Cond.fieldLink RX2 11 "GoalLifts$History" "states" "[LGoalLifts$House;", Cond.fieldLink RX2 18 "GoalLifts$History" "next" "I", Cond.fieldLink RX2 32 "GoalLifts$History" "count" "I", Cond.methodLink RX2 35 Lib.Math.min.name, Cond.static Lib.Math.min.name, Cond.initialized "java/lang/Math", Cond.code Lib.Math.min.name Lib.Math.min.code 2 (some .int), Cond.methodLink RX2 22 yX3_copyFrom, Cond.instanceMethod yX3_copyFrom, Cond.selects RX3 yX3_copyFrom yX3_copyFrom, Cond.initialized RX3]
def wsX4_addCar_r2 : List Cond := [Cond.code yX3_copyFrom cX3_copyFrom 2 none, Cond.fieldLink RX3 29 "GoalLifts$House" "tick" "I", Cond.fieldLink RX3 9 "GoalLifts$House" "awake" "[I", Cond.methodLink RX3 33 arraycopyName, Cond.native arraycopyName, Cond.static arraycopyName, Cond.initialized "java/lang/System", Cond.fieldLink RX3 18 "GoalLifts$House" "cars" "LGoalLifts$Cars;", Cond.fieldLink RX3 25 "GoalLifts$House" "callers" "LGoalLifts$Callers;", Cond.methodLink RX3 39 yX1_copyFrom, Cond.instanceMethod yX1_copyFrom, Cond.selects RX1 yX1_copyFrom yX1_copyFrom, Cond.initialized RX1, Cond.code yX1_copyFrom cX1_copyFrom 2 none, Cond.fieldLink RX1 30 "GoalLifts$Cars" "count" "I", Cond.fieldLink RX1 34 "GoalLifts$Cars" "stopsMade" "I", Cond.fieldLink RX1 9 "GoalLifts$Cars" "lowest" "[I", Cond.methodLink RX1 37 arraycopyName, Cond.fieldLink RX1 15 "GoalLifts$Cars" "highest" "[I", Cond.fieldLink RX1 18 "GoalLifts$Cars" "places" "[I", Cond.fieldLink RX1 21 "GoalLifts$Cars" "floor" "[I", Cond.fieldLink RX1 24 "GoalLifts$Cars" "state" "[I", Cond.fieldLink RX1 27 "GoalLifts$Cars" "travelled" "[I", Cond.methodLink RX3 43 yX0_copyFrom]
def wsX4_addCar_r3 : List Cond := [Cond.instanceMethod yX0_copyFrom, Cond.selects RX0 yX0_copyFrom yX0_copyFrom, Cond.initialized RX0, Cond.code yX0_copyFrom cX0_copyFrom 2 none, Cond.fieldLink RX0 36 "GoalLifts$Callers" "count" "I", Cond.fieldLink RX0 9 "GoalLifts$Callers" "floor" "[I", Cond.methodLink RX0 40 arraycopyName, Cond.fieldLink RX0 15 "GoalLifts$Callers" "goal" "[I", Cond.fieldLink RX0 18 "GoalLifts$Callers" "phase" "[I", Cond.fieldLink RX0 21 "GoalLifts$Callers" "given" "[I", Cond.fieldLink RX0 24 "GoalLifts$Callers" "calledAt" "[I", Cond.fieldLink RX0 27 "GoalLifts$Callers" "rodeAt" "[I", Cond.fieldLink RX0 30 "GoalLifts$Callers" "thereAt" "[I", Cond.fieldLink RX0 33 "GoalLifts$Callers" "timesGiven" "[I", Cond.methodLink RX2 26 yJ9_floorMod_7cf53, Cond.static yJ9_floorMod_7cf53, Cond.initialized RJ9, Cond.code yJ9_floorMod_7cf53 cJ9_floorMod_7cf53 3 (some .int), Cond.methodLink RX4 44 yX1_add, Cond.instanceMethod yX1_add, Cond.selects RX1 yX1_add yX1_add, Cond.code yX1_add cX1_add 5 (some .int)]
def wsX4_addCar : List Cond := .code yX4_addCar cX4_addCar 4 (some .int) :: ((wsX4_addCar_r1 ++ (wsX4_addCar_r2 ++ wsX4_addCar_r3)) ++ wsX40 ++ wsX30 ++ wsX10 ++ wsX20 ++ wsX00)
def wsX4_setAwake_r1 : List Cond := [Cond.fieldLink RX4 22 "GoalLifts" "history" "LGoalLifts$History;", Cond.fieldLink RX4 10 "GoalLifts" "house" "LGoalLifts$House;", Cond.fieldLink RX4 48 "GoalLifts$House" "awake" "[I", Cond.methodLink RX4 40 yX2_keep, Cond.instanceMethod yX2_keep, Cond.selects RX2 yX2_keep yX2_keep, Cond.initialized RX2, Cond.code yX2_keep cX2_keep 3 none, Cond.fieldLink RX2 11 "GoalLifts$History" "states" "[LGoalLifts$House;", Cond.fieldLink RX2 18 "GoalLifts$History" "next" "I", Cond.fieldLink RX2 32 "GoalLifts$History" "count" "I", Cond.methodLink RX2 35 Lib.Math.min.name, Cond.static Lib.Math.min.name, Cond.initialized "java/lang/Math", Cond.code Lib.Math.min.name Lib.Math.min.code 2 (some .int), Cond.methodLink RX2 22 yX3_copyFrom, Cond.instanceMethod yX3_copyFrom, Cond.selects RX3 yX3_copyFrom yX3_copyFrom, Cond.initialized RX3, Cond.code yX3_copyFrom cX3_copyFrom 2 none, Cond.fieldLink RX3 29 "GoalLifts$House" "tick" "I", Cond.fieldLink RX3 9 "GoalLifts$House" "awake" "[I", Cond.methodLink RX3 33 arraycopyName, Cond.native arraycopyName]
def wsX4_setAwake_r2 : List Cond := [Cond.static arraycopyName, Cond.initialized "java/lang/System", Cond.fieldLink RX3 18 "GoalLifts$House" "cars" "LGoalLifts$Cars;", Cond.fieldLink RX3 25 "GoalLifts$House" "callers" "LGoalLifts$Callers;", Cond.methodLink RX3 39 yX1_copyFrom, Cond.instanceMethod yX1_copyFrom, Cond.selects RX1 yX1_copyFrom yX1_copyFrom, Cond.initialized RX1, Cond.code yX1_copyFrom cX1_copyFrom 2 none, Cond.fieldLink RX1 30 "GoalLifts$Cars" "count" "I", Cond.fieldLink RX1 34 "GoalLifts$Cars" "stopsMade" "I", Cond.fieldLink RX1 9 "GoalLifts$Cars" "lowest" "[I", Cond.methodLink RX1 37 arraycopyName, Cond.fieldLink RX1 15 "GoalLifts$Cars" "highest" "[I", Cond.fieldLink RX1 18 "GoalLifts$Cars" "places" "[I", Cond.fieldLink RX1 21 "GoalLifts$Cars" "floor" "[I", Cond.fieldLink RX1 24 "GoalLifts$Cars" "state" "[I", Cond.fieldLink RX1 27 "GoalLifts$Cars" "travelled" "[I", Cond.methodLink RX3 43 yX0_copyFrom, Cond.instanceMethod yX0_copyFrom, Cond.selects RX0 yX0_copyFrom yX0_copyFrom, Cond.initialized RX0, Cond.code yX0_copyFrom cX0_copyFrom 2 none, Cond.fieldLink RX0 36 "GoalLifts$Callers" "count" "I"]
def wsX4_setAwake_r3 : List Cond := [Cond.fieldLink RX0 9 "GoalLifts$Callers" "floor" "[I", Cond.methodLink RX0 40 arraycopyName, Cond.fieldLink RX0 15 "GoalLifts$Callers" "goal" "[I", Cond.fieldLink RX0 18 "GoalLifts$Callers" "phase" "[I", Cond.fieldLink RX0 21 "GoalLifts$Callers" "given" "[I", Cond.fieldLink RX0 24 "GoalLifts$Callers" "calledAt" "[I", Cond.fieldLink RX0 27 "GoalLifts$Callers" "rodeAt" "[I", Cond.fieldLink RX0 30 "GoalLifts$Callers" "thereAt" "[I", Cond.fieldLink RX0 33 "GoalLifts$Callers" "timesGiven" "[I", Cond.methodLink RX2 26 yJ9_floorMod_7cf53, Cond.static yJ9_floorMod_7cf53, Cond.initialized RJ9, Cond.code yJ9_floorMod_7cf53 cJ9_floorMod_7cf53 3 (some .int)]
def wsX4_setAwake : List Cond := .code yX4_setAwake cX4_setAwake 4 (some .int) :: ((wsX4_setAwake_r1 ++ (wsX4_setAwake_r2 ++ wsX4_setAwake_r3)) ++ wsX40 ++ wsX30 ++ wsX20 ++ wsX10 ++ wsX00)
def wsX4_hold_r1 : List Cond := [Cond.fieldLink RX4 10 "GoalLifts" "house" "LGoalLifts$House;", Cond.fieldLink RX4 30 "GoalLifts$House" "cars" "LGoalLifts$Cars;", Cond.fieldLink RX4 55 "GoalLifts$Cars" "state" "[I", Cond.fieldLink RX4 22 "GoalLifts" "history" "LGoalLifts$History;", Cond.fieldLink RX4 58 "GoalLifts$House" "callers" "LGoalLifts$Callers;", Cond.methodLink RX4 52 yX1_has, Cond.instanceMethod yX1_has, Cond.selects RX1 yX1_has yX1_has, Cond.initialized RX1, Cond.code yX1_has cX1_has 2 (some .boolean), Cond.fieldLink RX1 30 "GoalLifts$Cars" "count" "I", Cond.methodLink RX4 40 yX2_keep, Cond.instanceMethod yX2_keep, Cond.selects RX2 yX2_keep yX2_keep, Cond.initialized RX2, Cond.code yX2_keep cX2_keep 3 none, Cond.fieldLink RX2 11 "GoalLifts$History" "states" "[LGoalLifts$House;", Cond.fieldLink RX2 18 "GoalLifts$History" "next" "I", Cond.fieldLink RX2 32 "GoalLifts$History" "count" "I", Cond.methodLink RX2 35 Lib.Math.min.name, Cond.static Lib.Math.min.name, Cond.initialized "java/lang/Math", Cond.code Lib.Math.min.name Lib.Math.min.code 2 (some .int), Cond.methodLink RX2 22 yX3_copyFrom]
def wsX4_hold_r2 : List Cond := [Cond.instanceMethod yX3_copyFrom, Cond.selects RX3 yX3_copyFrom yX3_copyFrom, Cond.initialized RX3, Cond.code yX3_copyFrom cX3_copyFrom 2 none, Cond.fieldLink RX3 29 "GoalLifts$House" "tick" "I", Cond.fieldLink RX3 9 "GoalLifts$House" "awake" "[I", Cond.methodLink RX3 33 arraycopyName, Cond.native arraycopyName, Cond.static arraycopyName, Cond.initialized "java/lang/System", Cond.fieldLink RX3 18 "GoalLifts$House" "cars" "LGoalLifts$Cars;", Cond.fieldLink RX3 25 "GoalLifts$House" "callers" "LGoalLifts$Callers;", Cond.methodLink RX3 39 yX1_copyFrom, Cond.instanceMethod yX1_copyFrom, Cond.selects RX1 yX1_copyFrom yX1_copyFrom, Cond.code yX1_copyFrom cX1_copyFrom 2 none, Cond.fieldLink RX1 34 "GoalLifts$Cars" "stopsMade" "I", Cond.fieldLink RX1 9 "GoalLifts$Cars" "lowest" "[I", Cond.methodLink RX1 37 arraycopyName, Cond.fieldLink RX1 15 "GoalLifts$Cars" "highest" "[I", Cond.fieldLink RX1 18 "GoalLifts$Cars" "places" "[I", Cond.fieldLink RX1 21 "GoalLifts$Cars" "floor" "[I", Cond.fieldLink RX1 24 "GoalLifts$Cars" "state" "[I", Cond.fieldLink RX1 27 "GoalLifts$Cars" "travelled" "[I"]
def wsX4_hold_r3 : List Cond := [Cond.methodLink RX3 43 yX0_copyFrom, Cond.instanceMethod yX0_copyFrom, Cond.selects RX0 yX0_copyFrom yX0_copyFrom, Cond.initialized RX0, Cond.code yX0_copyFrom cX0_copyFrom 2 none, Cond.fieldLink RX0 36 "GoalLifts$Callers" "count" "I", Cond.fieldLink RX0 9 "GoalLifts$Callers" "floor" "[I", Cond.methodLink RX0 40 arraycopyName, Cond.fieldLink RX0 15 "GoalLifts$Callers" "goal" "[I", Cond.fieldLink RX0 18 "GoalLifts$Callers" "phase" "[I", Cond.fieldLink RX0 21 "GoalLifts$Callers" "given" "[I", Cond.fieldLink RX0 24 "GoalLifts$Callers" "calledAt" "[I", Cond.fieldLink RX0 27 "GoalLifts$Callers" "rodeAt" "[I", Cond.fieldLink RX0 30 "GoalLifts$Callers" "thereAt" "[I", Cond.fieldLink RX0 33 "GoalLifts$Callers" "timesGiven" "[I", Cond.methodLink RX2 26 yJ9_floorMod_7cf53, Cond.static yJ9_floorMod_7cf53, Cond.initialized RJ9, Cond.code yJ9_floorMod_7cf53 cJ9_floorMod_7cf53 3 (some .int), Cond.methodLink RX4 62 yX0_numberWith, Cond.instanceMethod yX0_numberWith, Cond.selects RX0 yX0_numberWith yX0_numberWith, Cond.code yX0_numberWith cX0_numberWith 2 (some .int), Cond.methodLink RX0 50 yX0_numberOf]
def wsX4_hold_r4 : List Cond := [Cond.instanceMethod yX0_numberOf, Cond.selects RX0 yX0_numberOf yX0_numberOf, Cond.code yX0_numberOf cX0_numberOf 5 (some .int)]
def wsX4_hold : List Cond := .code yX4_hold cX4_hold 5 (some .int) :: ((wsX4_hold_r1 ++ (wsX4_hold_r2 ++ (wsX4_hold_r3 ++ wsX4_hold_r4))) ++ wsX40 ++ wsX30 ++ wsX10 ++ wsX20 ++ wsX00)
def wsX4_fail_r1 : List Cond := [Cond.fieldLink RX4 10 "GoalLifts" "house" "LGoalLifts$House;", Cond.fieldLink RX4 30 "GoalLifts$House" "cars" "LGoalLifts$Cars;", Cond.fieldLink RX4 55 "GoalLifts$Cars" "state" "[I", Cond.fieldLink RX4 22 "GoalLifts" "history" "LGoalLifts$History;", Cond.fieldLink RX4 58 "GoalLifts$House" "callers" "LGoalLifts$Callers;", Cond.methodLink RX4 52 yX1_has, Cond.instanceMethod yX1_has, Cond.selects RX1 yX1_has yX1_has, Cond.initialized RX1, Cond.code yX1_has cX1_has 2 (some .boolean), Cond.fieldLink RX1 30 "GoalLifts$Cars" "count" "I", Cond.methodLink RX4 40 yX2_keep, Cond.instanceMethod yX2_keep, Cond.selects RX2 yX2_keep yX2_keep, Cond.initialized RX2, Cond.code yX2_keep cX2_keep 3 none, Cond.fieldLink RX2 11 "GoalLifts$History" "states" "[LGoalLifts$House;", Cond.fieldLink RX2 18 "GoalLifts$History" "next" "I", Cond.fieldLink RX2 32 "GoalLifts$History" "count" "I", Cond.methodLink RX2 35 Lib.Math.min.name, Cond.static Lib.Math.min.name, Cond.initialized "java/lang/Math", Cond.code Lib.Math.min.name Lib.Math.min.code 2 (some .int), Cond.methodLink RX2 22 yX3_copyFrom]
def wsX4_fail_r2 : List Cond := [Cond.instanceMethod yX3_copyFrom, Cond.selects RX3 yX3_copyFrom yX3_copyFrom, Cond.initialized RX3, Cond.code yX3_copyFrom cX3_copyFrom 2 none, Cond.fieldLink RX3 29 "GoalLifts$House" "tick" "I", Cond.fieldLink RX3 9 "GoalLifts$House" "awake" "[I", Cond.methodLink RX3 33 arraycopyName, Cond.native arraycopyName, Cond.static arraycopyName, Cond.initialized "java/lang/System", Cond.fieldLink RX3 18 "GoalLifts$House" "cars" "LGoalLifts$Cars;", Cond.fieldLink RX3 25 "GoalLifts$House" "callers" "LGoalLifts$Callers;", Cond.methodLink RX3 39 yX1_copyFrom, Cond.instanceMethod yX1_copyFrom, Cond.selects RX1 yX1_copyFrom yX1_copyFrom, Cond.code yX1_copyFrom cX1_copyFrom 2 none, Cond.fieldLink RX1 34 "GoalLifts$Cars" "stopsMade" "I", Cond.fieldLink RX1 9 "GoalLifts$Cars" "lowest" "[I", Cond.methodLink RX1 37 arraycopyName, Cond.fieldLink RX1 15 "GoalLifts$Cars" "highest" "[I", Cond.fieldLink RX1 18 "GoalLifts$Cars" "places" "[I", Cond.fieldLink RX1 21 "GoalLifts$Cars" "floor" "[I", Cond.fieldLink RX1 24 "GoalLifts$Cars" "state" "[I", Cond.fieldLink RX1 27 "GoalLifts$Cars" "travelled" "[I"]
def wsX4_fail_r3 : List Cond := [Cond.methodLink RX3 43 yX0_copyFrom, Cond.instanceMethod yX0_copyFrom, Cond.selects RX0 yX0_copyFrom yX0_copyFrom, Cond.initialized RX0, Cond.code yX0_copyFrom cX0_copyFrom 2 none, Cond.fieldLink RX0 36 "GoalLifts$Callers" "count" "I", Cond.fieldLink RX0 9 "GoalLifts$Callers" "floor" "[I", Cond.methodLink RX0 40 arraycopyName, Cond.fieldLink RX0 15 "GoalLifts$Callers" "goal" "[I", Cond.fieldLink RX0 18 "GoalLifts$Callers" "phase" "[I", Cond.fieldLink RX0 21 "GoalLifts$Callers" "given" "[I", Cond.fieldLink RX0 24 "GoalLifts$Callers" "calledAt" "[I", Cond.fieldLink RX0 27 "GoalLifts$Callers" "rodeAt" "[I", Cond.fieldLink RX0 30 "GoalLifts$Callers" "thereAt" "[I", Cond.fieldLink RX0 33 "GoalLifts$Callers" "timesGiven" "[I", Cond.methodLink RX2 26 yJ9_floorMod_7cf53, Cond.static yJ9_floorMod_7cf53, Cond.initialized RJ9, Cond.code yJ9_floorMod_7cf53 cJ9_floorMod_7cf53 3 (some .int), Cond.methodLink RX4 68 yX3_breakCar, Cond.instanceMethod yX3_breakCar, Cond.selects RX3 yX3_breakCar yX3_breakCar, Cond.code yX3_breakCar cX3_breakCar 2 none, Cond.fieldLink RX3 56 "GoalLifts$Cars" "state" "[I"]
def wsX4_fail_r4 : List Cond := [Cond.fieldLink RX3 67 "GoalLifts$Cars" "floor" "[I", Cond.methodLink RX3 134 yX0_loseCar, Cond.instanceMethod yX0_loseCar, Cond.selects RX0 yX0_loseCar yX0_loseCar, Cond.code yX0_loseCar cX0_loseCar 6 none, Cond.methodLink RX0 58 yX0_rides, Cond.instanceMethod yX0_rides, Cond.selects RX0 yX0_rides yX0_rides, Cond.code yX0_rides cX0_rides 3 (some .boolean), Cond.methodLink RX0 54 yX0_waitsFor, Cond.instanceMethod yX0_waitsFor, Cond.selects RX0 yX0_waitsFor yX0_waitsFor, Cond.code yX0_waitsFor cX0_waitsFor 3 (some .boolean), Cond.methodLink RX4 72 yX0_numberIn, Cond.instanceMethod yX0_numberIn, Cond.selects RX0 yX0_numberIn yX0_numberIn, Cond.code yX0_numberIn cX0_numberIn 4 (some .int)]
def wsX4_fail : List Cond := .code yX4_fail cX4_fail 2 (some .int) :: ((wsX4_fail_r1 ++ (wsX4_fail_r2 ++ (wsX4_fail_r3 ++ wsX4_fail_r4))) ++ wsX40 ++ wsX30 ++ wsX10 ++ wsX20 ++ wsX00)
def wsX4_repair_r1 : List Cond := [Cond.fieldLink RX4 10 "GoalLifts" "house" "LGoalLifts$House;", Cond.fieldLink RX4 30 "GoalLifts$House" "cars" "LGoalLifts$Cars;", Cond.fieldLink RX4 55 "GoalLifts$Cars" "state" "[I", Cond.fieldLink RX4 22 "GoalLifts" "history" "LGoalLifts$History;", Cond.fieldLink RX4 75 "GoalLifts$Cars" "floor" "[I", Cond.methodLink RX4 52 yX1_has, Cond.instanceMethod yX1_has, Cond.selects RX1 yX1_has yX1_has, Cond.initialized RX1, Cond.code yX1_has cX1_has 2 (some .boolean), Cond.fieldLink RX1 30 "GoalLifts$Cars" "count" "I", Cond.methodLink RX4 40 yX2_keep, Cond.instanceMethod yX2_keep, Cond.selects RX2 yX2_keep yX2_keep, Cond.initialized RX2, Cond.code yX2_keep cX2_keep 3 none, Cond.fieldLink RX2 11 "GoalLifts$History" "states" "[LGoalLifts$House;", Cond.fieldLink RX2 18 "GoalLifts$History" "next" "I", Cond.fieldLink RX2 32 "GoalLifts$History" "count" "I", Cond.methodLink RX2 35 Lib.Math.min.name, Cond.static Lib.Math.min.name, Cond.initialized "java/lang/Math", Cond.code Lib.Math.min.name Lib.Math.min.code 2 (some .int), Cond.methodLink RX2 22 yX3_copyFrom]
def wsX4_repair_r2 : List Cond := [Cond.instanceMethod yX3_copyFrom, Cond.selects RX3 yX3_copyFrom yX3_copyFrom, Cond.initialized RX3, Cond.code yX3_copyFrom cX3_copyFrom 2 none, Cond.fieldLink RX3 29 "GoalLifts$House" "tick" "I", Cond.fieldLink RX3 9 "GoalLifts$House" "awake" "[I", Cond.methodLink RX3 33 arraycopyName, Cond.native arraycopyName, Cond.static arraycopyName, Cond.initialized "java/lang/System", Cond.fieldLink RX3 18 "GoalLifts$House" "cars" "LGoalLifts$Cars;", Cond.fieldLink RX3 25 "GoalLifts$House" "callers" "LGoalLifts$Callers;", Cond.methodLink RX3 39 yX1_copyFrom, Cond.instanceMethod yX1_copyFrom, Cond.selects RX1 yX1_copyFrom yX1_copyFrom, Cond.code yX1_copyFrom cX1_copyFrom 2 none, Cond.fieldLink RX1 34 "GoalLifts$Cars" "stopsMade" "I", Cond.fieldLink RX1 9 "GoalLifts$Cars" "lowest" "[I", Cond.methodLink RX1 37 arraycopyName, Cond.fieldLink RX1 15 "GoalLifts$Cars" "highest" "[I", Cond.fieldLink RX1 18 "GoalLifts$Cars" "places" "[I", Cond.fieldLink RX1 21 "GoalLifts$Cars" "floor" "[I", Cond.fieldLink RX1 24 "GoalLifts$Cars" "state" "[I", Cond.fieldLink RX1 27 "GoalLifts$Cars" "travelled" "[I"]
def wsX4_repair_r3 : List Cond := [Cond.methodLink RX3 43 yX0_copyFrom, Cond.instanceMethod yX0_copyFrom, Cond.selects RX0 yX0_copyFrom yX0_copyFrom, Cond.initialized RX0, Cond.code yX0_copyFrom cX0_copyFrom 2 none, Cond.fieldLink RX0 36 "GoalLifts$Callers" "count" "I", Cond.fieldLink RX0 9 "GoalLifts$Callers" "floor" "[I", Cond.methodLink RX0 40 arraycopyName, Cond.fieldLink RX0 15 "GoalLifts$Callers" "goal" "[I", Cond.fieldLink RX0 18 "GoalLifts$Callers" "phase" "[I", Cond.fieldLink RX0 21 "GoalLifts$Callers" "given" "[I", Cond.fieldLink RX0 24 "GoalLifts$Callers" "calledAt" "[I", Cond.fieldLink RX0 27 "GoalLifts$Callers" "rodeAt" "[I", Cond.fieldLink RX0 30 "GoalLifts$Callers" "thereAt" "[I", Cond.fieldLink RX0 33 "GoalLifts$Callers" "timesGiven" "[I", Cond.methodLink RX2 26 yJ9_floorMod_7cf53, Cond.static yJ9_floorMod_7cf53, Cond.initialized RJ9, Cond.code yJ9_floorMod_7cf53 cJ9_floorMod_7cf53 3 (some .int)]
def wsX4_repair : List Cond := .code yX4_repair cX4_repair 2 (some .int) :: ((wsX4_repair_r1 ++ (wsX4_repair_r2 ++ wsX4_repair_r3)) ++ wsX40 ++ wsX30 ++ wsX10 ++ wsX20 ++ wsX00)
def wsX4_isWay : List Cond := .code yX4_isWay cX4_isWay 2 (some .boolean) :: ([.methodLink RX4 26 yX4_isFloor, .static yX4_isFloor, .initialized RX4, .code yX4_isFloor cX4_isFloor 1 (some .boolean)])
def wsX4_call_r1 : List Cond := [Cond.fieldLink RX4 10 "GoalLifts" "house" "LGoalLifts$House;", Cond.fieldLink RX4 58 "GoalLifts$House" "callers" "LGoalLifts$Callers;", Cond.fieldLink RX4 82 "GoalLifts$Callers" "count" "I", Cond.fieldLink RX4 22 "GoalLifts" "history" "LGoalLifts$History;", Cond.fieldLink RX4 87 "GoalLifts$House" "tick" "I", Cond.methodLink RX4 78 yX4_isWay, Cond.static yX4_isWay, Cond.initialized RX4, Cond.code yX4_isWay cX4_isWay 2 (some .boolean), Cond.methodLink RX4 26 yX4_isFloor, Cond.static yX4_isFloor, Cond.code yX4_isFloor cX4_isFloor 1 (some .boolean), Cond.methodLink RX4 40 yX2_keep, Cond.instanceMethod yX2_keep, Cond.selects RX2 yX2_keep yX2_keep, Cond.initialized RX2, Cond.code yX2_keep cX2_keep 3 none, Cond.fieldLink RX2 11 "GoalLifts$History" "states" "[LGoalLifts$House;", Cond.fieldLink RX2 18 "GoalLifts$History" "next" "I", Cond.fieldLink RX2 32 "GoalLifts$History" "count" "I", Cond.methodLink RX2 35 Lib.Math.min.name, Cond.static Lib.Math.min.name, Cond.initialized "java/lang/Math", Cond.code Lib.Math.min.name Lib.Math.min.code 2 (some .int)]
def wsX4_call_r2 : List Cond := [Cond.methodLink RX2 22 yX3_copyFrom, Cond.instanceMethod yX3_copyFrom, Cond.selects RX3 yX3_copyFrom yX3_copyFrom, Cond.initialized RX3, Cond.code yX3_copyFrom cX3_copyFrom 2 none, Cond.fieldLink RX3 29 "GoalLifts$House" "tick" "I", Cond.fieldLink RX3 9 "GoalLifts$House" "awake" "[I", Cond.methodLink RX3 33 arraycopyName, Cond.native arraycopyName, Cond.static arraycopyName, Cond.initialized "java/lang/System", Cond.fieldLink RX3 18 "GoalLifts$House" "cars" "LGoalLifts$Cars;", Cond.fieldLink RX3 25 "GoalLifts$House" "callers" "LGoalLifts$Callers;", Cond.methodLink RX3 39 yX1_copyFrom, Cond.instanceMethod yX1_copyFrom, Cond.selects RX1 yX1_copyFrom yX1_copyFrom, Cond.initialized RX1, Cond.code yX1_copyFrom cX1_copyFrom 2 none, Cond.fieldLink RX1 30 "GoalLifts$Cars" "count" "I", Cond.fieldLink RX1 34 "GoalLifts$Cars" "stopsMade" "I", Cond.fieldLink RX1 9 "GoalLifts$Cars" "lowest" "[I", Cond.methodLink RX1 37 arraycopyName, Cond.fieldLink RX1 15 "GoalLifts$Cars" "highest" "[I", Cond.fieldLink RX1 18 "GoalLifts$Cars" "places" "[I"]
def wsX4_call_r3 : List Cond := [Cond.fieldLink RX1 21 "GoalLifts$Cars" "floor" "[I", Cond.fieldLink RX1 24 "GoalLifts$Cars" "state" "[I", Cond.fieldLink RX1 27 "GoalLifts$Cars" "travelled" "[I", Cond.methodLink RX3 43 yX0_copyFrom, Cond.instanceMethod yX0_copyFrom, Cond.selects RX0 yX0_copyFrom yX0_copyFrom, Cond.initialized RX0, Cond.code yX0_copyFrom cX0_copyFrom 2 none, Cond.fieldLink RX0 36 "GoalLifts$Callers" "count" "I", Cond.fieldLink RX0 9 "GoalLifts$Callers" "floor" "[I", Cond.methodLink RX0 40 arraycopyName, Cond.fieldLink RX0 15 "GoalLifts$Callers" "goal" "[I", Cond.fieldLink RX0 18 "GoalLifts$Callers" "phase" "[I", Cond.fieldLink RX0 21 "GoalLifts$Callers" "given" "[I", Cond.fieldLink RX0 24 "GoalLifts$Callers" "calledAt" "[I", Cond.fieldLink RX0 27 "GoalLifts$Callers" "rodeAt" "[I", Cond.fieldLink RX0 30 "GoalLifts$Callers" "thereAt" "[I", Cond.fieldLink RX0 33 "GoalLifts$Callers" "timesGiven" "[I", Cond.methodLink RX2 26 yJ9_floorMod_7cf53, Cond.static yJ9_floorMod_7cf53, Cond.initialized RJ9, Cond.code yJ9_floorMod_7cf53 cJ9_floorMod_7cf53 3 (some .int), Cond.methodLink RX4 83 yX3_bestCar, Cond.instanceMethod yX3_bestCar]
def wsX4_call_r4 : List Cond := [Cond.selects RX3 yX3_bestCar yX3_bestCar, Cond.code yX3_bestCar cX3_bestCar 7 (some .int), Cond.fieldLink RX3 85 "GoalLifts$Cars" "count" "I", Cond.methodLink RX3 88 yX3_canBeGiven, Cond.instanceMethod yX3_canBeGiven, Cond.selects RX3 yX3_canBeGiven yX3_canBeGiven, Cond.code yX3_canBeGiven cX3_canBeGiven 4 (some .boolean), Cond.fieldLink RX3 56 "GoalLifts$Cars" "state" "[I", Cond.methodLink RX3 59 yX3_isAwake, Cond.instanceMethod yX3_isAwake, Cond.selects RX3 yX3_isAwake yX3_isAwake, Cond.code yX3_isAwake cX3_isAwake 2 (some .boolean), Cond.methodLink RX3 52 yX3_hour, Cond.instanceMethod yX3_hour, Cond.selects RX3 yX3_hour yX3_hour, Cond.code yX3_hour cX3_hour 1 (some .int), Cond.methodLink RX3 46 yJ9_floorMod_7cf53, Cond.methodLink RX3 63 yX1_serves, Cond.instanceMethod yX1_serves, Cond.selects RX1 yX1_serves yX1_serves, Cond.code yX1_serves cX1_serves 3 (some .boolean), Cond.methodLink RX3 92 yX3_costOf, Cond.instanceMethod yX3_costOf, Cond.selects RX3 yX3_costOf yX3_costOf]
def wsX4_call_r5 : List Cond := [Cond.code yX3_costOf cX3_costOf 6 (some .int), Cond.fieldLink RX3 67 "GoalLifts$Cars" "floor" "[I", Cond.methodLink RX3 70 Lib.Math.abs.name, Cond.static Lib.Math.abs.name, Cond.code Lib.Math.abs.name Lib.Math.abs.code 1 (some .int), Cond.methodLink RX3 74 yX0_stopsOf, Cond.instanceMethod yX0_stopsOf, Cond.selects RX0 yX0_stopsOf yX0_stopsOf, Cond.code yX0_stopsOf cX0_stopsOf 4 (some .int), Cond.methodLink RX0 54 yX0_waitsFor, Cond.instanceMethod yX0_waitsFor, Cond.selects RX0 yX0_waitsFor yX0_waitsFor, Cond.code yX0_waitsFor cX0_waitsFor 3 (some .boolean), Cond.methodLink RX0 58 yX0_rides, Cond.instanceMethod yX0_rides, Cond.selects RX0 yX0_rides yX0_rides, Cond.code yX0_rides cX0_rides 3 (some .boolean), Cond.methodLink RX3 77 yJ6_bitCount_0f7a4, Cond.static yJ6_bitCount_0f7a4, Cond.initialized RJ6, Cond.code yJ6_bitCount_0f7a4 cJ6_bitCount_0f7a4 1 (some .int), Cond.constant RJ6 265 (1431655765), Cond.constant RJ6 266 (858993459), Cond.constant RJ6 267 (252645135)]
def wsX4_call_r6 : List Cond := [Cond.methodLink RX3 82 yX0_numberWith, Cond.instanceMethod yX0_numberWith, Cond.selects RX0 yX0_numberWith yX0_numberWith, Cond.code yX0_numberWith cX0_numberWith 2 (some .int), Cond.methodLink RX0 50 yX0_numberOf, Cond.instanceMethod yX0_numberOf, Cond.selects RX0 yX0_numberOf yX0_numberOf, Cond.code yX0_numberOf cX0_numberOf 5 (some .int), Cond.methodLink RX4 90 yX0_add, Cond.instanceMethod yX0_add, Cond.selects RX0 yX0_add yX0_add, Cond.code yX0_add cX0_add 5 (some .int), Cond.methodLink RX4 91 yX0_give, Cond.instanceMethod yX0_give, Cond.selects RX0 yX0_give yX0_give, Cond.code yX0_give cX0_give 3 none, Cond.methodLink RX0 46 yX0_has, Cond.instanceMethod yX0_has, Cond.selects RX0 yX0_has yX0_has, Cond.code yX0_has cX0_has 2 (some .boolean)]
def wsX4_call : List Cond := .code yX4_call cX4_call 5 (some .int) :: ((wsX4_call_r1 ++ (wsX4_call_r2 ++ (wsX4_call_r3 ++ (wsX4_call_r4 ++ (wsX4_call_r5 ++ wsX4_call_r6))))) ++ wsX40 ++ wsX30 ++ wsX00 ++ wsX20 ++ wsX10)
def wsX4_pass_r1 : List Cond := [Cond.fieldLink RX4 10 "GoalLifts" "house" "LGoalLifts$House;", Cond.fieldLink RX4 87 "GoalLifts$House" "tick" "I", Cond.fieldLink RX4 22 "GoalLifts" "history" "LGoalLifts$History;", Cond.fieldLink RX4 58 "GoalLifts$House" "callers" "LGoalLifts$Callers;", Cond.methodLink RX4 40 yX2_keep, Cond.instanceMethod yX2_keep, Cond.selects RX2 yX2_keep yX2_keep, Cond.initialized RX2, Cond.code yX2_keep cX2_keep 3 none, Cond.fieldLink RX2 11 "GoalLifts$History" "states" "[LGoalLifts$House;", Cond.fieldLink RX2 18 "GoalLifts$History" "next" "I", Cond.fieldLink RX2 32 "GoalLifts$History" "count" "I", Cond.methodLink RX2 35 Lib.Math.min.name, Cond.static Lib.Math.min.name, Cond.initialized "java/lang/Math", Cond.code Lib.Math.min.name Lib.Math.min.code 2 (some .int), Cond.methodLink RX2 22 yX3_copyFrom, Cond.instanceMethod yX3_copyFrom, Cond.selects RX3 yX3_copyFrom yX3_copyFrom, Cond.initialized RX3, Cond.code yX3_copyFrom cX3_copyFrom 2 none, Cond.fieldLink RX3 29 "GoalLifts$House" "tick" "I", Cond.fieldLink RX3 9 "GoalLifts$House" "awake" "[I", Cond.methodLink RX3 33 arraycopyName]
def wsX4_pass_r2 : List Cond := [Cond.native arraycopyName, Cond.static arraycopyName, Cond.initialized "java/lang/System", Cond.fieldLink RX3 18 "GoalLifts$House" "cars" "LGoalLifts$Cars;", Cond.fieldLink RX3 25 "GoalLifts$House" "callers" "LGoalLifts$Callers;", Cond.methodLink RX3 39 yX1_copyFrom, Cond.instanceMethod yX1_copyFrom, Cond.selects RX1 yX1_copyFrom yX1_copyFrom, Cond.initialized RX1, Cond.code yX1_copyFrom cX1_copyFrom 2 none, Cond.fieldLink RX1 30 "GoalLifts$Cars" "count" "I", Cond.fieldLink RX1 34 "GoalLifts$Cars" "stopsMade" "I", Cond.fieldLink RX1 9 "GoalLifts$Cars" "lowest" "[I", Cond.methodLink RX1 37 arraycopyName, Cond.fieldLink RX1 15 "GoalLifts$Cars" "highest" "[I", Cond.fieldLink RX1 18 "GoalLifts$Cars" "places" "[I", Cond.fieldLink RX1 21 "GoalLifts$Cars" "floor" "[I", Cond.fieldLink RX1 24 "GoalLifts$Cars" "state" "[I", Cond.fieldLink RX1 27 "GoalLifts$Cars" "travelled" "[I", Cond.methodLink RX3 43 yX0_copyFrom, Cond.instanceMethod yX0_copyFrom, Cond.selects RX0 yX0_copyFrom yX0_copyFrom, Cond.initialized RX0, Cond.code yX0_copyFrom cX0_copyFrom 2 none]
def wsX4_pass_r3 : List Cond := [Cond.fieldLink RX0 36 "GoalLifts$Callers" "count" "I", Cond.fieldLink RX0 9 "GoalLifts$Callers" "floor" "[I", Cond.methodLink RX0 40 arraycopyName, Cond.fieldLink RX0 15 "GoalLifts$Callers" "goal" "[I", Cond.fieldLink RX0 18 "GoalLifts$Callers" "phase" "[I", Cond.fieldLink RX0 21 "GoalLifts$Callers" "given" "[I", Cond.fieldLink RX0 24 "GoalLifts$Callers" "calledAt" "[I", Cond.fieldLink RX0 27 "GoalLifts$Callers" "rodeAt" "[I", Cond.fieldLink RX0 30 "GoalLifts$Callers" "thereAt" "[I", Cond.fieldLink RX0 33 "GoalLifts$Callers" "timesGiven" "[I", Cond.methodLink RX2 26 yJ9_floorMod_7cf53, Cond.static yJ9_floorMod_7cf53, Cond.initialized RJ9, Cond.code yJ9_floorMod_7cf53 cJ9_floorMod_7cf53 3 (some .int), Cond.methodLink RX4 95 yX3_oneTick, Cond.instanceMethod yX3_oneTick, Cond.selects RX3 yX3_oneTick yX3_oneTick, Cond.code yX3_oneTick cX3_oneTick 2 none, Cond.fieldLink RX3 96 "GoalLifts$Callers" "count" "I", Cond.fieldLink RX3 97 "GoalLifts$Callers" "phase" "[I", Cond.fieldLink RX3 100 "GoalLifts$Callers" "floor" "[I", Cond.fieldLink RX3 101 "GoalLifts$Callers" "goal" "[I", Cond.fieldLink RX3 85 "GoalLifts$Cars" "count" "I", Cond.fieldLink RX3 56 "GoalLifts$Cars" "state" "[I"]
def wsX4_pass_r4 : List Cond := [Cond.methodLink RX3 104 yX3_bestCar, Cond.instanceMethod yX3_bestCar, Cond.selects RX3 yX3_bestCar yX3_bestCar, Cond.code yX3_bestCar cX3_bestCar 7 (some .int), Cond.methodLink RX3 88 yX3_canBeGiven, Cond.instanceMethod yX3_canBeGiven, Cond.selects RX3 yX3_canBeGiven yX3_canBeGiven, Cond.code yX3_canBeGiven cX3_canBeGiven 4 (some .boolean), Cond.methodLink RX3 59 yX3_isAwake, Cond.instanceMethod yX3_isAwake, Cond.selects RX3 yX3_isAwake yX3_isAwake, Cond.code yX3_isAwake cX3_isAwake 2 (some .boolean), Cond.methodLink RX3 52 yX3_hour, Cond.instanceMethod yX3_hour, Cond.selects RX3 yX3_hour yX3_hour, Cond.code yX3_hour cX3_hour 1 (some .int), Cond.methodLink RX3 46 yJ9_floorMod_7cf53, Cond.methodLink RX3 63 yX1_serves, Cond.instanceMethod yX1_serves, Cond.selects RX1 yX1_serves yX1_serves, Cond.code yX1_serves cX1_serves 3 (some .boolean), Cond.methodLink RX3 92 yX3_costOf, Cond.instanceMethod yX3_costOf, Cond.selects RX3 yX3_costOf yX3_costOf]
def wsX4_pass_r5 : List Cond := [Cond.code yX3_costOf cX3_costOf 6 (some .int), Cond.fieldLink RX3 67 "GoalLifts$Cars" "floor" "[I", Cond.methodLink RX3 70 Lib.Math.abs.name, Cond.static Lib.Math.abs.name, Cond.code Lib.Math.abs.name Lib.Math.abs.code 1 (some .int), Cond.methodLink RX3 74 yX0_stopsOf, Cond.instanceMethod yX0_stopsOf, Cond.selects RX0 yX0_stopsOf yX0_stopsOf, Cond.code yX0_stopsOf cX0_stopsOf 4 (some .int), Cond.methodLink RX0 54 yX0_waitsFor, Cond.instanceMethod yX0_waitsFor, Cond.selects RX0 yX0_waitsFor yX0_waitsFor, Cond.code yX0_waitsFor cX0_waitsFor 3 (some .boolean), Cond.methodLink RX0 58 yX0_rides, Cond.instanceMethod yX0_rides, Cond.selects RX0 yX0_rides yX0_rides, Cond.code yX0_rides cX0_rides 3 (some .boolean), Cond.methodLink RX3 77 yJ6_bitCount_0f7a4, Cond.static yJ6_bitCount_0f7a4, Cond.initialized RJ6, Cond.code yJ6_bitCount_0f7a4 cJ6_bitCount_0f7a4 1 (some .int), Cond.constant RJ6 265 (1431655765), Cond.constant RJ6 266 (858993459), Cond.constant RJ6 267 (252645135)]
def wsX4_pass_r6 : List Cond := [Cond.methodLink RX3 82 yX0_numberWith, Cond.instanceMethod yX0_numberWith, Cond.selects RX0 yX0_numberWith yX0_numberWith, Cond.code yX0_numberWith cX0_numberWith 2 (some .int), Cond.methodLink RX0 50 yX0_numberOf, Cond.instanceMethod yX0_numberOf, Cond.selects RX0 yX0_numberOf yX0_numberOf, Cond.code yX0_numberOf cX0_numberOf 5 (some .int), Cond.methodLink RX3 107 yX0_give, Cond.instanceMethod yX0_give, Cond.selects RX0 yX0_give yX0_give, Cond.code yX0_give cX0_give 3 none, Cond.methodLink RX0 46 yX0_has, Cond.instanceMethod yX0_has, Cond.selects RX0 yX0_has yX0_has, Cond.code yX0_has cX0_has 2 (some .boolean), Cond.methodLink RX3 111 yX3_stopOrTravel, Cond.instanceMethod yX3_stopOrTravel, Cond.selects RX3 yX3_stopOrTravel yX3_stopOrTravel, Cond.code yX3_stopOrTravel cX3_stopOrTravel 6 none, Cond.fieldLink RX3 118 "GoalLifts$Cars" "places" "[I", Cond.fieldLink RX3 125 "GoalLifts$Cars" "stopsMade" "I", Cond.methodLink RX3 115 yX0_letOut, Cond.instanceMethod yX0_letOut]
def wsX4_pass_r7 : List Cond := [Cond.selects RX0 yX0_letOut yX0_letOut, Cond.code yX0_letOut cX0_letOut 6 (some .int), Cond.methodLink RX3 121 yX0_takeIn, Cond.instanceMethod yX0_takeIn, Cond.selects RX0 yX0_takeIn yX0_takeIn, Cond.code yX0_takeIn cX0_takeIn 8 (some .int), Cond.methodLink RX3 128 yX0_aimOf, Cond.instanceMethod yX0_aimOf, Cond.selects RX0 yX0_aimOf yX0_aimOf, Cond.code yX0_aimOf cX0_aimOf 6 (some .int), Cond.methodLink RX0 61 yX0_isNearer, Cond.static yX0_isNearer, Cond.code yX0_isNearer cX0_isNearer 5 (some .boolean), Cond.methodLink RX0 65 Lib.Math.abs.name, Cond.methodLink RX3 131 yX1_travelTowards, Cond.instanceMethod yX1_travelTowards, Cond.selects RX1 yX1_travelTowards yX1_travelTowards, Cond.code yX1_travelTowards cX1_travelTowards 3 none, Cond.methodLink RX4 72 yX0_numberIn, Cond.instanceMethod yX0_numberIn, Cond.selects RX0 yX0_numberIn yX0_numberIn, Cond.code yX0_numberIn cX0_numberIn 4 (some .int)]
def wsX4_pass : List Cond := .code yX4_pass cX4_pass 3 (some .int) :: ((wsX4_pass_r1 ++ (wsX4_pass_r2 ++ (wsX4_pass_r3 ++ (wsX4_pass_r4 ++ (wsX4_pass_r5 ++ (wsX4_pass_r6 ++ wsX4_pass_r7)))))) ++ wsX40 ++ wsX30 ++ wsX20 ++ wsX10 ++ wsX00)
def wsX4_undo_r1 : List Cond := [Cond.fieldLink RX4 22 "GoalLifts" "history" "LGoalLifts$History;", Cond.fieldLink RX4 98 "GoalLifts$History" "count" "I", Cond.fieldLink RX4 10 "GoalLifts" "house" "LGoalLifts$House;", Cond.methodLink RX4 99 yX2_restore, Cond.instanceMethod yX2_restore, Cond.selects RX2 yX2_restore yX2_restore, Cond.initialized RX2, Cond.code yX2_restore cX2_restore 4 none, Cond.fieldLink RX2 18 "GoalLifts$History" "next" "I", Cond.fieldLink RX2 11 "GoalLifts$History" "states" "[LGoalLifts$House;", Cond.fieldLink RX2 32 "GoalLifts$History" "count" "I", Cond.methodLink RX2 26 yJ9_floorMod_7cf53, Cond.static yJ9_floorMod_7cf53, Cond.initialized RJ9, Cond.code yJ9_floorMod_7cf53 cJ9_floorMod_7cf53 3 (some .int), Cond.methodLink RX2 22 yX3_copyFrom, Cond.instanceMethod yX3_copyFrom, Cond.selects RX3 yX3_copyFrom yX3_copyFrom, Cond.initialized RX3, Cond.code yX3_copyFrom cX3_copyFrom 2 none, Cond.fieldLink RX3 29 "GoalLifts$House" "tick" "I", Cond.fieldLink RX3 9 "GoalLifts$House" "awake" "[I", Cond.methodLink RX3 33 arraycopyName, Cond.native arraycopyName]
def wsX4_undo_r2 : List Cond := [Cond.static arraycopyName, Cond.initialized "java/lang/System", Cond.fieldLink RX3 18 "GoalLifts$House" "cars" "LGoalLifts$Cars;", Cond.fieldLink RX3 25 "GoalLifts$House" "callers" "LGoalLifts$Callers;", Cond.methodLink RX3 39 yX1_copyFrom, Cond.instanceMethod yX1_copyFrom, Cond.selects RX1 yX1_copyFrom yX1_copyFrom, Cond.initialized RX1, Cond.code yX1_copyFrom cX1_copyFrom 2 none, Cond.fieldLink RX1 30 "GoalLifts$Cars" "count" "I", Cond.fieldLink RX1 34 "GoalLifts$Cars" "stopsMade" "I", Cond.fieldLink RX1 9 "GoalLifts$Cars" "lowest" "[I", Cond.methodLink RX1 37 arraycopyName, Cond.fieldLink RX1 15 "GoalLifts$Cars" "highest" "[I", Cond.fieldLink RX1 18 "GoalLifts$Cars" "places" "[I", Cond.fieldLink RX1 21 "GoalLifts$Cars" "floor" "[I", Cond.fieldLink RX1 24 "GoalLifts$Cars" "state" "[I", Cond.fieldLink RX1 27 "GoalLifts$Cars" "travelled" "[I", Cond.methodLink RX3 43 yX0_copyFrom, Cond.instanceMethod yX0_copyFrom, Cond.selects RX0 yX0_copyFrom yX0_copyFrom, Cond.initialized RX0, Cond.code yX0_copyFrom cX0_copyFrom 2 none, Cond.fieldLink RX0 36 "GoalLifts$Callers" "count" "I"]
def wsX4_undo_r3 : List Cond := [Cond.fieldLink RX0 9 "GoalLifts$Callers" "floor" "[I", Cond.methodLink RX0 40 arraycopyName, Cond.fieldLink RX0 15 "GoalLifts$Callers" "goal" "[I", Cond.fieldLink RX0 18 "GoalLifts$Callers" "phase" "[I", Cond.fieldLink RX0 21 "GoalLifts$Callers" "given" "[I", Cond.fieldLink RX0 24 "GoalLifts$Callers" "calledAt" "[I", Cond.fieldLink RX0 27 "GoalLifts$Callers" "rodeAt" "[I", Cond.fieldLink RX0 30 "GoalLifts$Callers" "thereAt" "[I", Cond.fieldLink RX0 33 "GoalLifts$Callers" "timesGiven" "[I"]
def wsX4_undo : List Cond := .code yX4_undo cX4_undo 1 (some .int) :: ((wsX4_undo_r1 ++ (wsX4_undo_r2 ++ wsX4_undo_r3)) ++ wsX40 ++ wsX20 ++ wsX30 ++ wsX10 ++ wsX00)
def wsX4_count_r1 : List Cond := [Cond.fieldLink RX4 10 "GoalLifts" "house" "LGoalLifts$House;", Cond.fieldLink RX4 87 "GoalLifts$House" "tick" "I", Cond.fieldLink RX4 30 "GoalLifts$House" "cars" "LGoalLifts$Cars;", Cond.fieldLink RX4 34 "GoalLifts$Cars" "count" "I", Cond.fieldLink RX4 58 "GoalLifts$House" "callers" "LGoalLifts$Callers;", Cond.fieldLink RX4 82 "GoalLifts$Callers" "count" "I", Cond.fieldLink RX4 112 "GoalLifts$Cars" "stopsMade" "I", Cond.fieldLink RX4 22 "GoalLifts" "history" "LGoalLifts$History;", Cond.fieldLink RX4 98 "GoalLifts$History" "count" "I", Cond.methodLink RX4 102 yX3_hour, Cond.instanceMethod yX3_hour, Cond.selects RX3 yX3_hour yX3_hour, Cond.initialized RX3, Cond.code yX3_hour cX3_hour 1 (some .int), Cond.fieldLink RX3 29 "GoalLifts$House" "tick" "I", Cond.methodLink RX3 46 yJ9_floorMod_7cf53, Cond.static yJ9_floorMod_7cf53, Cond.initialized RJ9, Cond.code yJ9_floorMod_7cf53 cJ9_floorMod_7cf53 3 (some .int), Cond.methodLink RX4 72 yX0_numberIn, Cond.instanceMethod yX0_numberIn, Cond.selects RX0 yX0_numberIn yX0_numberIn, Cond.initialized RX0, Cond.code yX0_numberIn cX0_numberIn 4 (some .int)]
def wsX4_count_r2 : List Cond := [Cond.fieldLink RX0 36 "GoalLifts$Callers" "count" "I", Cond.fieldLink RX0 18 "GoalLifts$Callers" "phase" "[I", Cond.methodLink RX4 106 yX0_numberOfGroups, Cond.instanceMethod yX0_numberOfGroups, Cond.selects RX0 yX0_numberOfGroups yX0_numberOfGroups, Cond.code yX0_numberOfGroups cX0_numberOfGroups 3 (some .int), Cond.methodLink RX0 77 yX0_isFirstOfGroup, Cond.instanceMethod yX0_isFirstOfGroup, Cond.selects RX0 yX0_isFirstOfGroup yX0_isFirstOfGroup, Cond.code yX0_isFirstOfGroup cX0_isFirstOfGroup 3 (some .boolean), Cond.methodLink RX0 74 yX0_sameGroup, Cond.instanceMethod yX0_sameGroup, Cond.selects RX0 yX0_sameGroup yX0_sameGroup, Cond.code yX0_sameGroup cX0_sameGroup 3 (some .boolean), Cond.fieldLink RX0 9 "GoalLifts$Callers" "floor" "[I", Cond.fieldLink RX0 15 "GoalLifts$Callers" "goal" "[I", Cond.methodLink RX0 71 yX0_isInGroup, Cond.instanceMethod yX0_isInGroup, Cond.selects RX0 yX0_isInGroup yX0_isInGroup, Cond.code yX0_isInGroup cX0_isInGroup 2 (some .boolean), Cond.methodLink RX4 109 yX1_travelledByAll, Cond.instanceMethod yX1_travelledByAll, Cond.selects RX1 yX1_travelledByAll yX1_travelledByAll, Cond.initialized RX1]
def wsX4_count_r3 : List Cond := [Cond.code yX1_travelledByAll cX1_travelledByAll 3 (some .int), Cond.fieldLink RX1 30 "GoalLifts$Cars" "count" "I", Cond.fieldLink RX1 27 "GoalLifts$Cars" "travelled" "[I", Cond.methodLink RX4 115 yX1_numberIn, Cond.instanceMethod yX1_numberIn, Cond.selects RX1 yX1_numberIn yX1_numberIn, Cond.code yX1_numberIn cX1_numberIn 4 (some .int), Cond.fieldLink RX1 24 "GoalLifts$Cars" "state" "[I"]
def wsX4_count : List Cond := .code yX4_count cX4_count 2 (some .int) :: ((wsX4_count_r1 ++ (wsX4_count_r2 ++ wsX4_count_r3)) ++ wsX40 ++ wsX30 ++ wsX10 ++ wsX00 ++ wsX20)
def wsX4_car_r1 : List Cond := [Cond.fieldLink RX4 10 "GoalLifts" "house" "LGoalLifts$House;", Cond.fieldLink RX4 30 "GoalLifts$House" "cars" "LGoalLifts$Cars;", Cond.fieldLink RX4 75 "GoalLifts$Cars" "floor" "[I", Cond.fieldLink RX4 55 "GoalLifts$Cars" "state" "[I", Cond.fieldLink RX4 58 "GoalLifts$House" "callers" "LGoalLifts$Callers;", Cond.fieldLink RX4 130 "GoalLifts$Cars" "travelled" "[I", Cond.methodLink RX4 52 yX1_has, Cond.instanceMethod yX1_has, Cond.selects RX1 yX1_has yX1_has, Cond.initialized RX1, Cond.code yX1_has cX1_has 2 (some .boolean), Cond.fieldLink RX1 30 "GoalLifts$Cars" "count" "I", Cond.methodLink RX4 116 yX0_numberOf, Cond.instanceMethod yX0_numberOf, Cond.selects RX0 yX0_numberOf yX0_numberOf, Cond.initialized RX0, Cond.code yX0_numberOf cX0_numberOf 5 (some .int), Cond.fieldLink RX0 36 "GoalLifts$Callers" "count" "I", Cond.fieldLink RX0 18 "GoalLifts$Callers" "phase" "[I", Cond.fieldLink RX0 21 "GoalLifts$Callers" "given" "[I", Cond.methodLink RX4 119 yX0_stopsOf, Cond.instanceMethod yX0_stopsOf, Cond.selects RX0 yX0_stopsOf yX0_stopsOf, Cond.code yX0_stopsOf cX0_stopsOf 4 (some .int)]
def wsX4_car_r2 : List Cond := [Cond.fieldLink RX0 9 "GoalLifts$Callers" "floor" "[I", Cond.fieldLink RX0 15 "GoalLifts$Callers" "goal" "[I", Cond.methodLink RX0 54 yX0_waitsFor, Cond.instanceMethod yX0_waitsFor, Cond.selects RX0 yX0_waitsFor yX0_waitsFor, Cond.code yX0_waitsFor cX0_waitsFor 3 (some .boolean), Cond.methodLink RX0 58 yX0_rides, Cond.instanceMethod yX0_rides, Cond.selects RX0 yX0_rides yX0_rides, Cond.code yX0_rides cX0_rides 3 (some .boolean), Cond.methodLink RX4 122 yJ6_bitCount_0f7a4, Cond.static yJ6_bitCount_0f7a4, Cond.initialized RJ6, Cond.code yJ6_bitCount_0f7a4 cJ6_bitCount_0f7a4 1 (some .int), Cond.constant RJ6 265 (1431655765), Cond.constant RJ6 266 (858993459), Cond.constant RJ6 267 (252645135), Cond.methodLink RX4 127 yX0_aimOf, Cond.instanceMethod yX0_aimOf, Cond.selects RX0 yX0_aimOf yX0_aimOf, Cond.code yX0_aimOf cX0_aimOf 6 (some .int), Cond.methodLink RX0 61 yX0_isNearer, Cond.static yX0_isNearer, Cond.code yX0_isNearer cX0_isNearer 5 (some .boolean)]
def wsX4_car_r3 : List Cond := [Cond.methodLink RX0 65 Lib.Math.abs.name, Cond.static Lib.Math.abs.name, Cond.initialized "java/lang/Math", Cond.code Lib.Math.abs.name Lib.Math.abs.code 1 (some .int), Cond.methodLink RX4 133 yX3_isAwake, Cond.instanceMethod yX3_isAwake, Cond.selects RX3 yX3_isAwake yX3_isAwake, Cond.initialized RX3, Cond.code yX3_isAwake cX3_isAwake 2 (some .boolean), Cond.fieldLink RX3 9 "GoalLifts$House" "awake" "[I", Cond.methodLink RX3 52 yX3_hour, Cond.instanceMethod yX3_hour, Cond.selects RX3 yX3_hour yX3_hour, Cond.code yX3_hour cX3_hour 1 (some .int), Cond.fieldLink RX3 29 "GoalLifts$House" "tick" "I", Cond.methodLink RX3 46 yJ9_floorMod_7cf53, Cond.static yJ9_floorMod_7cf53, Cond.initialized RJ9, Cond.code yJ9_floorMod_7cf53 cJ9_floorMod_7cf53 3 (some .int)]
def wsX4_car : List Cond := .code yX4_car cX4_car 3 (some .int) :: ((wsX4_car_r1 ++ (wsX4_car_r2 ++ wsX4_car_r3)) ++ wsX40 ++ wsX30 ++ wsX10 ++ wsX00)
def wsX4_caller : List Cond := .code yX4_caller cX4_caller 3 (some .int) :: ([.fieldLink RX4 10 "GoalLifts" "house" "LGoalLifts$House;", .fieldLink RX4 58 "GoalLifts$House" "callers" "LGoalLifts$Callers;", .fieldLink RX4 137 "GoalLifts$Callers" "floor" "[I", .fieldLink RX4 138 "GoalLifts$Callers" "goal" "[I", .fieldLink RX4 141 "GoalLifts$Callers" "phase" "[I", .fieldLink RX4 144 "GoalLifts$Callers" "given" "[I", .fieldLink RX4 147 "GoalLifts$Callers" "calledAt" "[I", .fieldLink RX4 150 "GoalLifts$Callers" "rodeAt" "[I", .fieldLink RX4 153 "GoalLifts$Callers" "thereAt" "[I", .fieldLink RX4 156 "GoalLifts$Callers" "timesGiven" "[I", .methodLink RX4 136 yX0_has, .instanceMethod yX0_has, .selects RX0 yX0_has yX0_has, .initialized RX0, .code yX0_has cX0_has 2 (some .boolean), .fieldLink RX0 36 "GoalLifts$Callers" "count" "I"] ++ wsX40 ++ wsX30 ++ wsX00)
def wsX4_group_r1 : List Cond := [Cond.fieldLink RX4 10 "GoalLifts" "house" "LGoalLifts$House;", Cond.fieldLink RX4 58 "GoalLifts$House" "callers" "LGoalLifts$Callers;", Cond.fieldLink RX4 137 "GoalLifts$Callers" "floor" "[I", Cond.fieldLink RX4 138 "GoalLifts$Callers" "goal" "[I", Cond.methodLink RX4 159 yX0_firstOfGroup, Cond.instanceMethod yX0_firstOfGroup, Cond.selects RX0 yX0_firstOfGroup yX0_firstOfGroup, Cond.initialized RX0, Cond.code yX0_firstOfGroup cX0_firstOfGroup 4 (some .int), Cond.fieldLink RX0 36 "GoalLifts$Callers" "count" "I", Cond.methodLink RX0 77 yX0_isFirstOfGroup, Cond.instanceMethod yX0_isFirstOfGroup, Cond.selects RX0 yX0_isFirstOfGroup yX0_isFirstOfGroup, Cond.code yX0_isFirstOfGroup cX0_isFirstOfGroup 3 (some .boolean), Cond.methodLink RX0 74 yX0_sameGroup, Cond.instanceMethod yX0_sameGroup, Cond.selects RX0 yX0_sameGroup yX0_sameGroup, Cond.code yX0_sameGroup cX0_sameGroup 3 (some .boolean), Cond.fieldLink RX0 9 "GoalLifts$Callers" "floor" "[I", Cond.fieldLink RX0 15 "GoalLifts$Callers" "goal" "[I", Cond.methodLink RX0 71 yX0_isInGroup, Cond.instanceMethod yX0_isInGroup, Cond.selects RX0 yX0_isInGroup yX0_isInGroup, Cond.code yX0_isInGroup cX0_isInGroup 2 (some .boolean)]
def wsX4_group_r2 : List Cond := [Cond.fieldLink RX0 18 "GoalLifts$Callers" "phase" "[I", Cond.methodLink RX4 136 yX0_has, Cond.instanceMethod yX0_has, Cond.selects RX0 yX0_has yX0_has, Cond.code yX0_has cX0_has 2 (some .boolean), Cond.methodLink RX4 162 yX0_sizeOfGroup, Cond.instanceMethod yX0_sizeOfGroup, Cond.selects RX0 yX0_sizeOfGroup yX0_sizeOfGroup, Cond.code yX0_sizeOfGroup cX0_sizeOfGroup 4 (some .int)]
def wsX4_group : List Cond := .code yX4_group cX4_group 4 (some .int) :: ((wsX4_group_r1 ++ wsX4_group_r2) ++ wsX40 ++ wsX30 ++ wsX00)
def wsX4_cost_r1 : List Cond := [Cond.fieldLink RX4 10 "GoalLifts" "house" "LGoalLifts$House;", Cond.fieldLink RX4 30 "GoalLifts$House" "cars" "LGoalLifts$Cars;", Cond.methodLink RX4 52 yX1_has, Cond.instanceMethod yX1_has, Cond.selects RX1 yX1_has yX1_has, Cond.initialized RX1, Cond.code yX1_has cX1_has 2 (some .boolean), Cond.fieldLink RX1 30 "GoalLifts$Cars" "count" "I", Cond.methodLink RX4 78 yX4_isWay, Cond.static yX4_isWay, Cond.initialized RX4, Cond.code yX4_isWay cX4_isWay 2 (some .boolean), Cond.methodLink RX4 26 yX4_isFloor, Cond.static yX4_isFloor, Cond.code yX4_isFloor cX4_isFloor 1 (some .boolean), Cond.methodLink RX4 165 yX3_canBeGiven, Cond.instanceMethod yX3_canBeGiven, Cond.selects RX3 yX3_canBeGiven yX3_canBeGiven, Cond.initialized RX3, Cond.code yX3_canBeGiven cX3_canBeGiven 4 (some .boolean), Cond.fieldLink RX3 18 "GoalLifts$House" "cars" "LGoalLifts$Cars;", Cond.fieldLink RX3 56 "GoalLifts$Cars" "state" "[I", Cond.methodLink RX3 59 yX3_isAwake, Cond.instanceMethod yX3_isAwake]
def wsX4_cost_r2 : List Cond := [Cond.selects RX3 yX3_isAwake yX3_isAwake, Cond.code yX3_isAwake cX3_isAwake 2 (some .boolean), Cond.fieldLink RX3 9 "GoalLifts$House" "awake" "[I", Cond.methodLink RX3 52 yX3_hour, Cond.instanceMethod yX3_hour, Cond.selects RX3 yX3_hour yX3_hour, Cond.code yX3_hour cX3_hour 1 (some .int), Cond.fieldLink RX3 29 "GoalLifts$House" "tick" "I", Cond.methodLink RX3 46 yJ9_floorMod_7cf53, Cond.static yJ9_floorMod_7cf53, Cond.initialized RJ9, Cond.code yJ9_floorMod_7cf53 cJ9_floorMod_7cf53 3 (some .int), Cond.methodLink RX3 63 yX1_serves, Cond.instanceMethod yX1_serves, Cond.selects RX1 yX1_serves yX1_serves, Cond.code yX1_serves cX1_serves 3 (some .boolean), Cond.fieldLink RX1 9 "GoalLifts$Cars" "lowest" "[I", Cond.fieldLink RX1 15 "GoalLifts$Cars" "highest" "[I", Cond.methodLink RX4 169 yX3_costOf, Cond.instanceMethod yX3_costOf, Cond.selects RX3 yX3_costOf yX3_costOf, Cond.code yX3_costOf cX3_costOf 6 (some .int), Cond.fieldLink RX3 67 "GoalLifts$Cars" "floor" "[I", Cond.methodLink RX3 70 Lib.Math.abs.name]
def wsX4_cost_r3 : List Cond := [Cond.static Lib.Math.abs.name, Cond.initialized "java/lang/Math", Cond.code Lib.Math.abs.name Lib.Math.abs.code 1 (some .int), Cond.fieldLink RX3 25 "GoalLifts$House" "callers" "LGoalLifts$Callers;", Cond.methodLink RX3 74 yX0_stopsOf, Cond.instanceMethod yX0_stopsOf, Cond.selects RX0 yX0_stopsOf yX0_stopsOf, Cond.initialized RX0, Cond.code yX0_stopsOf cX0_stopsOf 4 (some .int), Cond.fieldLink RX0 36 "GoalLifts$Callers" "count" "I", Cond.fieldLink RX0 9 "GoalLifts$Callers" "floor" "[I", Cond.fieldLink RX0 15 "GoalLifts$Callers" "goal" "[I", Cond.methodLink RX0 54 yX0_waitsFor, Cond.instanceMethod yX0_waitsFor, Cond.selects RX0 yX0_waitsFor yX0_waitsFor, Cond.code yX0_waitsFor cX0_waitsFor 3 (some .boolean), Cond.fieldLink RX0 18 "GoalLifts$Callers" "phase" "[I", Cond.fieldLink RX0 21 "GoalLifts$Callers" "given" "[I", Cond.methodLink RX0 58 yX0_rides, Cond.instanceMethod yX0_rides, Cond.selects RX0 yX0_rides yX0_rides, Cond.code yX0_rides cX0_rides 3 (some .boolean), Cond.methodLink RX3 77 yJ6_bitCount_0f7a4, Cond.static yJ6_bitCount_0f7a4]
def wsX4_cost_r4 : List Cond := [Cond.initialized RJ6, Cond.code yJ6_bitCount_0f7a4 cJ6_bitCount_0f7a4 1 (some .int), Cond.constant RJ6 265 (1431655765), Cond.constant RJ6 266 (858993459), Cond.constant RJ6 267 (252645135), Cond.methodLink RX3 82 yX0_numberWith, Cond.instanceMethod yX0_numberWith, Cond.selects RX0 yX0_numberWith yX0_numberWith, Cond.code yX0_numberWith cX0_numberWith 2 (some .int), Cond.methodLink RX0 50 yX0_numberOf, Cond.instanceMethod yX0_numberOf, Cond.selects RX0 yX0_numberOf yX0_numberOf, Cond.code yX0_numberOf cX0_numberOf 5 (some .int)]
def wsX4_cost : List Cond := .code yX4_cost cX4_cost 4 (some .int) :: ((wsX4_cost_r1 ++ (wsX4_cost_r2 ++ (wsX4_cost_r3 ++ wsX4_cost_r4))) ++ wsX40 ++ wsX30 ++ wsX10 ++ wsX00)
def wsX4_would_r1 : List Cond := [Cond.fieldLink RX4 10 "GoalLifts" "house" "LGoalLifts$House;", Cond.methodLink RX4 78 yX4_isWay, Cond.static yX4_isWay, Cond.initialized RX4, Cond.code yX4_isWay cX4_isWay 2 (some .boolean), Cond.methodLink RX4 26 yX4_isFloor, Cond.static yX4_isFloor, Cond.code yX4_isFloor cX4_isFloor 1 (some .boolean), Cond.methodLink RX4 83 yX3_bestCar, Cond.instanceMethod yX3_bestCar, Cond.selects RX3 yX3_bestCar yX3_bestCar, Cond.initialized RX3, Cond.code yX3_bestCar cX3_bestCar 7 (some .int), Cond.fieldLink RX3 18 "GoalLifts$House" "cars" "LGoalLifts$Cars;", Cond.fieldLink RX3 85 "GoalLifts$Cars" "count" "I", Cond.methodLink RX3 88 yX3_canBeGiven, Cond.instanceMethod yX3_canBeGiven, Cond.selects RX3 yX3_canBeGiven yX3_canBeGiven, Cond.code yX3_canBeGiven cX3_canBeGiven 4 (some .boolean), Cond.fieldLink RX3 56 "GoalLifts$Cars" "state" "[I", Cond.methodLink RX3 59 yX3_isAwake, Cond.instanceMethod yX3_isAwake, Cond.selects RX3 yX3_isAwake yX3_isAwake, Cond.code yX3_isAwake cX3_isAwake 2 (some .boolean)]
def wsX4_would_r2 : List Cond := [Cond.fieldLink RX3 9 "GoalLifts$House" "awake" "[I", Cond.methodLink RX3 52 yX3_hour, Cond.instanceMethod yX3_hour, Cond.selects RX3 yX3_hour yX3_hour, Cond.code yX3_hour cX3_hour 1 (some .int), Cond.fieldLink RX3 29 "GoalLifts$House" "tick" "I", Cond.methodLink RX3 46 yJ9_floorMod_7cf53, Cond.static yJ9_floorMod_7cf53, Cond.initialized RJ9, Cond.code yJ9_floorMod_7cf53 cJ9_floorMod_7cf53 3 (some .int), Cond.methodLink RX3 63 yX1_serves, Cond.instanceMethod yX1_serves, Cond.selects RX1 yX1_serves yX1_serves, Cond.initialized RX1, Cond.code yX1_serves cX1_serves 3 (some .boolean), Cond.fieldLink RX1 9 "GoalLifts$Cars" "lowest" "[I", Cond.fieldLink RX1 15 "GoalLifts$Cars" "highest" "[I", Cond.methodLink RX3 92 yX3_costOf, Cond.instanceMethod yX3_costOf, Cond.selects RX3 yX3_costOf yX3_costOf, Cond.code yX3_costOf cX3_costOf 6 (some .int), Cond.fieldLink RX3 67 "GoalLifts$Cars" "floor" "[I", Cond.methodLink RX3 70 Lib.Math.abs.name, Cond.static Lib.Math.abs.name]
def wsX4_would_r3 : List Cond := [Cond.initialized "java/lang/Math", Cond.code Lib.Math.abs.name Lib.Math.abs.code 1 (some .int), Cond.fieldLink RX3 25 "GoalLifts$House" "callers" "LGoalLifts$Callers;", Cond.methodLink RX3 74 yX0_stopsOf, Cond.instanceMethod yX0_stopsOf, Cond.selects RX0 yX0_stopsOf yX0_stopsOf, Cond.initialized RX0, Cond.code yX0_stopsOf cX0_stopsOf 4 (some .int), Cond.fieldLink RX0 36 "GoalLifts$Callers" "count" "I", Cond.fieldLink RX0 9 "GoalLifts$Callers" "floor" "[I", Cond.fieldLink RX0 15 "GoalLifts$Callers" "goal" "[I", Cond.methodLink RX0 54 yX0_waitsFor, Cond.instanceMethod yX0_waitsFor, Cond.selects RX0 yX0_waitsFor yX0_waitsFor, Cond.code yX0_waitsFor cX0_waitsFor 3 (some .boolean), Cond.fieldLink RX0 18 "GoalLifts$Callers" "phase" "[I", Cond.fieldLink RX0 21 "GoalLifts$Callers" "given" "[I", Cond.methodLink RX0 58 yX0_rides, Cond.instanceMethod yX0_rides, Cond.selects RX0 yX0_rides yX0_rides, Cond.code yX0_rides cX0_rides 3 (some .boolean), Cond.methodLink RX3 77 yJ6_bitCount_0f7a4, Cond.static yJ6_bitCount_0f7a4, Cond.initialized RJ6]
def wsX4_would_r4 : List Cond := [Cond.code yJ6_bitCount_0f7a4 cJ6_bitCount_0f7a4 1 (some .int), Cond.constant RJ6 265 (1431655765), Cond.constant RJ6 266 (858993459), Cond.constant RJ6 267 (252645135), Cond.methodLink RX3 82 yX0_numberWith, Cond.instanceMethod yX0_numberWith, Cond.selects RX0 yX0_numberWith yX0_numberWith, Cond.code yX0_numberWith cX0_numberWith 2 (some .int), Cond.methodLink RX0 50 yX0_numberOf, Cond.instanceMethod yX0_numberOf, Cond.selects RX0 yX0_numberOf yX0_numberOf, Cond.code yX0_numberOf cX0_numberOf 5 (some .int)]
def wsX4_would : List Cond := .code yX4_would cX4_would 3 (some .int) :: ((wsX4_would_r1 ++ (wsX4_would_r2 ++ (wsX4_would_r3 ++ wsX4_would_r4))) ++ wsX40 ++ wsX30 ++ wsX10 ++ wsX00)
def wsX4_thereIn_r1 : List Cond := [Cond.fieldLink RX4 10 "GoalLifts" "house" "LGoalLifts$House;", Cond.fieldLink RX4 58 "GoalLifts$House" "callers" "LGoalLifts$Callers;", Cond.fieldLink RX4 16 "GoalLifts" "forecast" "LGoalLifts$House;", Cond.fieldLink RX4 141 "GoalLifts$Callers" "phase" "[I", Cond.methodLink RX4 136 yX0_has, Cond.instanceMethod yX0_has, Cond.selects RX0 yX0_has yX0_has, Cond.initialized RX0, Cond.code yX0_has cX0_has 2 (some .boolean), Cond.fieldLink RX0 36 "GoalLifts$Callers" "count" "I", Cond.methodLink RX4 172 yX3_copyFrom, Cond.instanceMethod yX3_copyFrom, Cond.selects RX3 yX3_copyFrom yX3_copyFrom, Cond.initialized RX3, Cond.code yX3_copyFrom cX3_copyFrom 2 none, Cond.fieldLink RX3 29 "GoalLifts$House" "tick" "I", Cond.fieldLink RX3 9 "GoalLifts$House" "awake" "[I", Cond.methodLink RX3 33 arraycopyName, Cond.native arraycopyName, Cond.static arraycopyName, Cond.initialized "java/lang/System", Cond.fieldLink RX3 18 "GoalLifts$House" "cars" "LGoalLifts$Cars;", Cond.fieldLink RX3 25 "GoalLifts$House" "callers" "LGoalLifts$Callers;", Cond.methodLink RX3 39 yX1_copyFrom]
def wsX4_thereIn_r2 : List Cond := [Cond.instanceMethod yX1_copyFrom, Cond.selects RX1 yX1_copyFrom yX1_copyFrom, Cond.initialized RX1, Cond.code yX1_copyFrom cX1_copyFrom 2 none, Cond.fieldLink RX1 30 "GoalLifts$Cars" "count" "I", Cond.fieldLink RX1 34 "GoalLifts$Cars" "stopsMade" "I", Cond.fieldLink RX1 9 "GoalLifts$Cars" "lowest" "[I", Cond.methodLink RX1 37 arraycopyName, Cond.fieldLink RX1 15 "GoalLifts$Cars" "highest" "[I", Cond.fieldLink RX1 18 "GoalLifts$Cars" "places" "[I", Cond.fieldLink RX1 21 "GoalLifts$Cars" "floor" "[I", Cond.fieldLink RX1 24 "GoalLifts$Cars" "state" "[I", Cond.fieldLink RX1 27 "GoalLifts$Cars" "travelled" "[I", Cond.methodLink RX3 43 yX0_copyFrom, Cond.instanceMethod yX0_copyFrom, Cond.selects RX0 yX0_copyFrom yX0_copyFrom, Cond.code yX0_copyFrom cX0_copyFrom 2 none, Cond.fieldLink RX0 9 "GoalLifts$Callers" "floor" "[I", Cond.methodLink RX0 40 arraycopyName, Cond.fieldLink RX0 15 "GoalLifts$Callers" "goal" "[I", Cond.fieldLink RX0 18 "GoalLifts$Callers" "phase" "[I", Cond.fieldLink RX0 21 "GoalLifts$Callers" "given" "[I", Cond.fieldLink RX0 24 "GoalLifts$Callers" "calledAt" "[I", Cond.fieldLink RX0 27 "GoalLifts$Callers" "rodeAt" "[I"]
def wsX4_thereIn_r3 : List Cond := [Cond.fieldLink RX0 30 "GoalLifts$Callers" "thereAt" "[I", Cond.fieldLink RX0 33 "GoalLifts$Callers" "timesGiven" "[I", Cond.methodLink RX4 95 yX3_oneTick, Cond.instanceMethod yX3_oneTick, Cond.selects RX3 yX3_oneTick yX3_oneTick, Cond.code yX3_oneTick cX3_oneTick 2 none, Cond.fieldLink RX3 96 "GoalLifts$Callers" "count" "I", Cond.fieldLink RX3 97 "GoalLifts$Callers" "phase" "[I", Cond.fieldLink RX3 100 "GoalLifts$Callers" "floor" "[I", Cond.fieldLink RX3 101 "GoalLifts$Callers" "goal" "[I", Cond.fieldLink RX3 85 "GoalLifts$Cars" "count" "I", Cond.fieldLink RX3 56 "GoalLifts$Cars" "state" "[I", Cond.methodLink RX3 104 yX3_bestCar, Cond.instanceMethod yX3_bestCar, Cond.selects RX3 yX3_bestCar yX3_bestCar, Cond.code yX3_bestCar cX3_bestCar 7 (some .int), Cond.methodLink RX3 88 yX3_canBeGiven, Cond.instanceMethod yX3_canBeGiven, Cond.selects RX3 yX3_canBeGiven yX3_canBeGiven, Cond.code yX3_canBeGiven cX3_canBeGiven 4 (some .boolean), Cond.methodLink RX3 59 yX3_isAwake, Cond.instanceMethod yX3_isAwake, Cond.selects RX3 yX3_isAwake yX3_isAwake, Cond.code yX3_isAwake cX3_isAwake 2 (some .boolean)]
def wsX4_thereIn_r4 : List Cond := [Cond.methodLink RX3 52 yX3_hour, Cond.instanceMethod yX3_hour, Cond.selects RX3 yX3_hour yX3_hour, Cond.code yX3_hour cX3_hour 1 (some .int), Cond.methodLink RX3 46 yJ9_floorMod_7cf53, Cond.static yJ9_floorMod_7cf53, Cond.initialized RJ9, Cond.code yJ9_floorMod_7cf53 cJ9_floorMod_7cf53 3 (some .int), Cond.methodLink RX3 63 yX1_serves, Cond.instanceMethod yX1_serves, Cond.selects RX1 yX1_serves yX1_serves, Cond.code yX1_serves cX1_serves 3 (some .boolean), Cond.methodLink RX3 92 yX3_costOf, Cond.instanceMethod yX3_costOf, Cond.selects RX3 yX3_costOf yX3_costOf, Cond.code yX3_costOf cX3_costOf 6 (some .int), Cond.fieldLink RX3 67 "GoalLifts$Cars" "floor" "[I", Cond.methodLink RX3 70 Lib.Math.abs.name, Cond.static Lib.Math.abs.name, Cond.initialized "java/lang/Math", Cond.code Lib.Math.abs.name Lib.Math.abs.code 1 (some .int), Cond.methodLink RX3 74 yX0_stopsOf, Cond.instanceMethod yX0_stopsOf, Cond.selects RX0 yX0_stopsOf yX0_stopsOf]
def wsX4_thereIn_r5 : List Cond := [Cond.code yX0_stopsOf cX0_stopsOf 4 (some .int), Cond.methodLink RX0 54 yX0_waitsFor, Cond.instanceMethod yX0_waitsFor, Cond.selects RX0 yX0_waitsFor yX0_waitsFor, Cond.code yX0_waitsFor cX0_waitsFor 3 (some .boolean), Cond.methodLink RX0 58 yX0_rides, Cond.instanceMethod yX0_rides, Cond.selects RX0 yX0_rides yX0_rides, Cond.code yX0_rides cX0_rides 3 (some .boolean), Cond.methodLink RX3 77 yJ6_bitCount_0f7a4, Cond.static yJ6_bitCount_0f7a4, Cond.initialized RJ6, Cond.code yJ6_bitCount_0f7a4 cJ6_bitCount_0f7a4 1 (some .int), Cond.constant RJ6 265 (1431655765), Cond.constant RJ6 266 (858993459), Cond.constant RJ6 267 (252645135), Cond.methodLink RX3 82 yX0_numberWith, Cond.instanceMethod yX0_numberWith, Cond.selects RX0 yX0_numberWith yX0_numberWith, Cond.code yX0_numberWith cX0_numberWith 2 (some .int), Cond.methodLink RX0 50 yX0_numberOf, Cond.instanceMethod yX0_numberOf, Cond.selects RX0 yX0_numberOf yX0_numberOf, Cond.code yX0_numberOf cX0_numberOf 5 (some .int)]
def wsX4_thereIn_r6 : List Cond := [Cond.methodLink RX3 107 yX0_give, Cond.instanceMethod yX0_give, Cond.selects RX0 yX0_give yX0_give, Cond.code yX0_give cX0_give 3 none, Cond.methodLink RX0 46 yX0_has, Cond.methodLink RX3 111 yX3_stopOrTravel, Cond.instanceMethod yX3_stopOrTravel, Cond.selects RX3 yX3_stopOrTravel yX3_stopOrTravel, Cond.code yX3_stopOrTravel cX3_stopOrTravel 6 none, Cond.fieldLink RX3 118 "GoalLifts$Cars" "places" "[I", Cond.fieldLink RX3 125 "GoalLifts$Cars" "stopsMade" "I", Cond.methodLink RX3 115 yX0_letOut, Cond.instanceMethod yX0_letOut, Cond.selects RX0 yX0_letOut yX0_letOut, Cond.code yX0_letOut cX0_letOut 6 (some .int), Cond.methodLink RX3 121 yX0_takeIn, Cond.instanceMethod yX0_takeIn, Cond.selects RX0 yX0_takeIn yX0_takeIn, Cond.code yX0_takeIn cX0_takeIn 8 (some .int), Cond.methodLink RX3 128 yX0_aimOf, Cond.instanceMethod yX0_aimOf, Cond.selects RX0 yX0_aimOf yX0_aimOf, Cond.code yX0_aimOf cX0_aimOf 6 (some .int), Cond.methodLink RX0 61 yX0_isNearer]
def wsX4_thereIn_r7 : List Cond := [Cond.static yX0_isNearer, Cond.code yX0_isNearer cX0_isNearer 5 (some .boolean), Cond.methodLink RX0 65 Lib.Math.abs.name, Cond.methodLink RX3 131 yX1_travelTowards, Cond.instanceMethod yX1_travelTowards, Cond.selects RX1 yX1_travelTowards yX1_travelTowards, Cond.code yX1_travelTowards cX1_travelTowards 3 none]
def wsX4_thereIn : List Cond := .code yX4_thereIn cX4_thereIn 3 (some .int) :: ((wsX4_thereIn_r1 ++ (wsX4_thereIn_r2 ++ (wsX4_thereIn_r3 ++ (wsX4_thereIn_r4 ++ (wsX4_thereIn_r5 ++ (wsX4_thereIn_r6 ++ wsX4_thereIn_r7)))))) ++ wsX40 ++ wsX30 ++ wsX00 ++ wsX10)
def wsX4_waits : List Cond := .code yX4_waits cX4_waits 7 (some .int) :: ([.fieldLink RX4 10 "GoalLifts" "house" "LGoalLifts$House;", .fieldLink RX4 58 "GoalLifts$House" "callers" "LGoalLifts$Callers;", .fieldLink RX4 82 "GoalLifts$Callers" "count" "I", .fieldLink RX4 87 "GoalLifts$House" "tick" "I", .methodLink RX4 175 yX0_waitOf, .instanceMethod yX0_waitOf, .selects RX0 yX0_waitOf yX0_waitOf, .initialized RX0, .code yX0_waitOf cX0_waitOf 4 (some .int), .fieldLink RX0 18 "GoalLifts$Callers" "phase" "[I", .fieldLink RX0 27 "GoalLifts$Callers" "rodeAt" "[I", .fieldLink RX0 24 "GoalLifts$Callers" "calledAt" "[I"] ++ wsX40 ++ wsX30 ++ wsX00)
def wsX4_allThereInWithout_r1 : List Cond := [Cond.fieldLink RX4 16 "GoalLifts" "forecast" "LGoalLifts$House;", Cond.fieldLink RX4 10 "GoalLifts" "house" "LGoalLifts$House;", Cond.fieldLink RX4 58 "GoalLifts$House" "callers" "LGoalLifts$Callers;", Cond.fieldLink RX4 82 "GoalLifts$Callers" "count" "I", Cond.methodLink RX4 172 yX3_copyFrom, Cond.instanceMethod yX3_copyFrom, Cond.selects RX3 yX3_copyFrom yX3_copyFrom, Cond.initialized RX3, Cond.code yX3_copyFrom cX3_copyFrom 2 none, Cond.fieldLink RX3 29 "GoalLifts$House" "tick" "I", Cond.fieldLink RX3 9 "GoalLifts$House" "awake" "[I", Cond.methodLink RX3 33 arraycopyName, Cond.native arraycopyName, Cond.static arraycopyName, Cond.initialized "java/lang/System", Cond.fieldLink RX3 18 "GoalLifts$House" "cars" "LGoalLifts$Cars;", Cond.fieldLink RX3 25 "GoalLifts$House" "callers" "LGoalLifts$Callers;", Cond.methodLink RX3 39 yX1_copyFrom, Cond.instanceMethod yX1_copyFrom, Cond.selects RX1 yX1_copyFrom yX1_copyFrom, Cond.initialized RX1, Cond.code yX1_copyFrom cX1_copyFrom 2 none, Cond.fieldLink RX1 30 "GoalLifts$Cars" "count" "I", Cond.fieldLink RX1 34 "GoalLifts$Cars" "stopsMade" "I"]
def wsX4_allThereInWithout_r2 : List Cond := [Cond.fieldLink RX1 9 "GoalLifts$Cars" "lowest" "[I", Cond.methodLink RX1 37 arraycopyName, Cond.fieldLink RX1 15 "GoalLifts$Cars" "highest" "[I", Cond.fieldLink RX1 18 "GoalLifts$Cars" "places" "[I", Cond.fieldLink RX1 21 "GoalLifts$Cars" "floor" "[I", Cond.fieldLink RX1 24 "GoalLifts$Cars" "state" "[I", Cond.fieldLink RX1 27 "GoalLifts$Cars" "travelled" "[I", Cond.methodLink RX3 43 yX0_copyFrom, Cond.instanceMethod yX0_copyFrom, Cond.selects RX0 yX0_copyFrom yX0_copyFrom, Cond.initialized RX0, Cond.code yX0_copyFrom cX0_copyFrom 2 none, Cond.fieldLink RX0 36 "GoalLifts$Callers" "count" "I", Cond.fieldLink RX0 9 "GoalLifts$Callers" "floor" "[I", Cond.methodLink RX0 40 arraycopyName, Cond.fieldLink RX0 15 "GoalLifts$Callers" "goal" "[I", Cond.fieldLink RX0 18 "GoalLifts$Callers" "phase" "[I", Cond.fieldLink RX0 21 "GoalLifts$Callers" "given" "[I", Cond.fieldLink RX0 24 "GoalLifts$Callers" "calledAt" "[I", Cond.fieldLink RX0 27 "GoalLifts$Callers" "rodeAt" "[I", Cond.fieldLink RX0 30 "GoalLifts$Callers" "thereAt" "[I", Cond.fieldLink RX0 33 "GoalLifts$Callers" "timesGiven" "[I", Cond.methodLink RX4 68 yX3_breakCar, Cond.instanceMethod yX3_breakCar]
def wsX4_allThereInWithout_r3 : List Cond := [Cond.selects RX3 yX3_breakCar yX3_breakCar, Cond.code yX3_breakCar cX3_breakCar 2 none, Cond.fieldLink RX3 56 "GoalLifts$Cars" "state" "[I", Cond.fieldLink RX3 67 "GoalLifts$Cars" "floor" "[I", Cond.methodLink RX3 134 yX0_loseCar, Cond.instanceMethod yX0_loseCar, Cond.selects RX0 yX0_loseCar yX0_loseCar, Cond.code yX0_loseCar cX0_loseCar 6 none, Cond.methodLink RX0 58 yX0_rides, Cond.instanceMethod yX0_rides, Cond.selects RX0 yX0_rides yX0_rides, Cond.code yX0_rides cX0_rides 3 (some .boolean), Cond.methodLink RX0 54 yX0_waitsFor, Cond.instanceMethod yX0_waitsFor, Cond.selects RX0 yX0_waitsFor yX0_waitsFor, Cond.code yX0_waitsFor cX0_waitsFor 3 (some .boolean), Cond.methodLink RX4 72 yX0_numberIn, Cond.instanceMethod yX0_numberIn, Cond.selects RX0 yX0_numberIn yX0_numberIn, Cond.code yX0_numberIn cX0_numberIn 4 (some .int), Cond.methodLink RX4 95 yX3_oneTick, Cond.instanceMethod yX3_oneTick, Cond.selects RX3 yX3_oneTick yX3_oneTick, Cond.code yX3_oneTick cX3_oneTick 2 none]
def wsX4_allThereInWithout_r4 : List Cond := [Cond.fieldLink RX3 96 "GoalLifts$Callers" "count" "I", Cond.fieldLink RX3 97 "GoalLifts$Callers" "phase" "[I", Cond.fieldLink RX3 100 "GoalLifts$Callers" "floor" "[I", Cond.fieldLink RX3 101 "GoalLifts$Callers" "goal" "[I", Cond.fieldLink RX3 85 "GoalLifts$Cars" "count" "I", Cond.methodLink RX3 104 yX3_bestCar, Cond.instanceMethod yX3_bestCar, Cond.selects RX3 yX3_bestCar yX3_bestCar, Cond.code yX3_bestCar cX3_bestCar 7 (some .int), Cond.methodLink RX3 88 yX3_canBeGiven, Cond.instanceMethod yX3_canBeGiven, Cond.selects RX3 yX3_canBeGiven yX3_canBeGiven, Cond.code yX3_canBeGiven cX3_canBeGiven 4 (some .boolean), Cond.methodLink RX3 59 yX3_isAwake, Cond.instanceMethod yX3_isAwake, Cond.selects RX3 yX3_isAwake yX3_isAwake, Cond.code yX3_isAwake cX3_isAwake 2 (some .boolean), Cond.methodLink RX3 52 yX3_hour, Cond.instanceMethod yX3_hour, Cond.selects RX3 yX3_hour yX3_hour, Cond.code yX3_hour cX3_hour 1 (some .int), Cond.methodLink RX3 46 yJ9_floorMod_7cf53, Cond.static yJ9_floorMod_7cf53, Cond.initialized RJ9]
def wsX4_allThereInWithout_r5 : List Cond := [Cond.code yJ9_floorMod_7cf53 cJ9_floorMod_7cf53 3 (some .int), Cond.methodLink RX3 63 yX1_serves, Cond.instanceMethod yX1_serves, Cond.selects RX1 yX1_serves yX1_serves, Cond.code yX1_serves cX1_serves 3 (some .boolean), Cond.methodLink RX3 92 yX3_costOf, Cond.instanceMethod yX3_costOf, Cond.selects RX3 yX3_costOf yX3_costOf, Cond.code yX3_costOf cX3_costOf 6 (some .int), Cond.methodLink RX3 70 Lib.Math.abs.name, Cond.static Lib.Math.abs.name, Cond.initialized "java/lang/Math", Cond.code Lib.Math.abs.name Lib.Math.abs.code 1 (some .int), Cond.methodLink RX3 74 yX0_stopsOf, Cond.instanceMethod yX0_stopsOf, Cond.selects RX0 yX0_stopsOf yX0_stopsOf, Cond.code yX0_stopsOf cX0_stopsOf 4 (some .int), Cond.methodLink RX3 77 yJ6_bitCount_0f7a4, Cond.static yJ6_bitCount_0f7a4, Cond.initialized RJ6, Cond.code yJ6_bitCount_0f7a4 cJ6_bitCount_0f7a4 1 (some .int), Cond.constant RJ6 265 (1431655765), Cond.constant RJ6 266 (858993459), Cond.constant RJ6 267 (252645135)]
def wsX4_allThereInWithout_r6 : List Cond := [Cond.methodLink RX3 82 yX0_numberWith, Cond.instanceMethod yX0_numberWith, Cond.selects RX0 yX0_numberWith yX0_numberWith, Cond.code yX0_numberWith cX0_numberWith 2 (some .int), Cond.methodLink RX0 50 yX0_numberOf, Cond.instanceMethod yX0_numberOf, Cond.selects RX0 yX0_numberOf yX0_numberOf, Cond.code yX0_numberOf cX0_numberOf 5 (some .int), Cond.methodLink RX3 107 yX0_give, Cond.instanceMethod yX0_give, Cond.selects RX0 yX0_give yX0_give, Cond.code yX0_give cX0_give 3 none, Cond.methodLink RX0 46 yX0_has, Cond.instanceMethod yX0_has, Cond.selects RX0 yX0_has yX0_has, Cond.code yX0_has cX0_has 2 (some .boolean), Cond.methodLink RX3 111 yX3_stopOrTravel, Cond.instanceMethod yX3_stopOrTravel, Cond.selects RX3 yX3_stopOrTravel yX3_stopOrTravel, Cond.code yX3_stopOrTravel cX3_stopOrTravel 6 none, Cond.fieldLink RX3 118 "GoalLifts$Cars" "places" "[I", Cond.fieldLink RX3 125 "GoalLifts$Cars" "stopsMade" "I", Cond.methodLink RX3 115 yX0_letOut, Cond.instanceMethod yX0_letOut]
def wsX4_allThereInWithout_r7 : List Cond := [Cond.selects RX0 yX0_letOut yX0_letOut, Cond.code yX0_letOut cX0_letOut 6 (some .int), Cond.methodLink RX3 121 yX0_takeIn, Cond.instanceMethod yX0_takeIn, Cond.selects RX0 yX0_takeIn yX0_takeIn, Cond.code yX0_takeIn cX0_takeIn 8 (some .int), Cond.methodLink RX3 128 yX0_aimOf, Cond.instanceMethod yX0_aimOf, Cond.selects RX0 yX0_aimOf yX0_aimOf, Cond.code yX0_aimOf cX0_aimOf 6 (some .int), Cond.methodLink RX0 61 yX0_isNearer, Cond.static yX0_isNearer, Cond.code yX0_isNearer cX0_isNearer 5 (some .boolean), Cond.methodLink RX0 65 Lib.Math.abs.name, Cond.methodLink RX3 131 yX1_travelTowards, Cond.instanceMethod yX1_travelTowards, Cond.selects RX1 yX1_travelTowards yX1_travelTowards, Cond.code yX1_travelTowards cX1_travelTowards 3 none]
def wsX4_allThereInWithout : List Cond := .code yX4_allThereInWithout cX4_allThereInWithout 3 (some .int) :: ((wsX4_allThereInWithout_r1 ++ (wsX4_allThereInWithout_r2 ++ (wsX4_allThereInWithout_r3 ++ (wsX4_allThereInWithout_r4 ++ (wsX4_allThereInWithout_r5 ++ (wsX4_allThereInWithout_r6 ++ wsX4_allThereInWithout_r7)))))) ++ wsX40 ++ wsX30 ++ wsX00 ++ wsX10)
def wsX4_worstCar_r1 : List Cond := [Cond.fieldLink RX4 10 "GoalLifts" "house" "LGoalLifts$House;", Cond.fieldLink RX4 30 "GoalLifts$House" "cars" "LGoalLifts$Cars;", Cond.fieldLink RX4 34 "GoalLifts$Cars" "count" "I", Cond.fieldLink RX4 55 "GoalLifts$Cars" "state" "[I", Cond.methodLink RX4 178 yX4_allThereInWithout, Cond.instanceMethod yX4_allThereInWithout, Cond.selects RX4 yX4_allThereInWithout yX4_allThereInWithout, Cond.initialized RX4, Cond.code yX4_allThereInWithout cX4_allThereInWithout 3 (some .int), Cond.fieldLink RX4 16 "GoalLifts" "forecast" "LGoalLifts$House;", Cond.fieldLink RX4 58 "GoalLifts$House" "callers" "LGoalLifts$Callers;", Cond.fieldLink RX4 82 "GoalLifts$Callers" "count" "I", Cond.methodLink RX4 172 yX3_copyFrom, Cond.instanceMethod yX3_copyFrom, Cond.selects RX3 yX3_copyFrom yX3_copyFrom, Cond.initialized RX3, Cond.code yX3_copyFrom cX3_copyFrom 2 none, Cond.fieldLink RX3 29 "GoalLifts$House" "tick" "I", Cond.fieldLink RX3 9 "GoalLifts$House" "awake" "[I", Cond.methodLink RX3 33 arraycopyName, Cond.native arraycopyName, Cond.static arraycopyName, Cond.initialized "java/lang/System", Cond.fieldLink RX3 18 "GoalLifts$House" "cars" "LGoalLifts$Cars;"]
def wsX4_worstCar_r2 : List Cond := [Cond.fieldLink RX3 25 "GoalLifts$House" "callers" "LGoalLifts$Callers;", Cond.methodLink RX3 39 yX1_copyFrom, Cond.instanceMethod yX1_copyFrom, Cond.selects RX1 yX1_copyFrom yX1_copyFrom, Cond.initialized RX1, Cond.code yX1_copyFrom cX1_copyFrom 2 none, Cond.fieldLink RX1 30 "GoalLifts$Cars" "count" "I", Cond.fieldLink RX1 34 "GoalLifts$Cars" "stopsMade" "I", Cond.fieldLink RX1 9 "GoalLifts$Cars" "lowest" "[I", Cond.methodLink RX1 37 arraycopyName, Cond.fieldLink RX1 15 "GoalLifts$Cars" "highest" "[I", Cond.fieldLink RX1 18 "GoalLifts$Cars" "places" "[I", Cond.fieldLink RX1 21 "GoalLifts$Cars" "floor" "[I", Cond.fieldLink RX1 24 "GoalLifts$Cars" "state" "[I", Cond.fieldLink RX1 27 "GoalLifts$Cars" "travelled" "[I", Cond.methodLink RX3 43 yX0_copyFrom, Cond.instanceMethod yX0_copyFrom, Cond.selects RX0 yX0_copyFrom yX0_copyFrom, Cond.initialized RX0, Cond.code yX0_copyFrom cX0_copyFrom 2 none, Cond.fieldLink RX0 36 "GoalLifts$Callers" "count" "I", Cond.fieldLink RX0 9 "GoalLifts$Callers" "floor" "[I", Cond.methodLink RX0 40 arraycopyName, Cond.fieldLink RX0 15 "GoalLifts$Callers" "goal" "[I"]
def wsX4_worstCar_r3 : List Cond := [Cond.fieldLink RX0 18 "GoalLifts$Callers" "phase" "[I", Cond.fieldLink RX0 21 "GoalLifts$Callers" "given" "[I", Cond.fieldLink RX0 24 "GoalLifts$Callers" "calledAt" "[I", Cond.fieldLink RX0 27 "GoalLifts$Callers" "rodeAt" "[I", Cond.fieldLink RX0 30 "GoalLifts$Callers" "thereAt" "[I", Cond.fieldLink RX0 33 "GoalLifts$Callers" "timesGiven" "[I", Cond.methodLink RX4 68 yX3_breakCar, Cond.instanceMethod yX3_breakCar, Cond.selects RX3 yX3_breakCar yX3_breakCar, Cond.code yX3_breakCar cX3_breakCar 2 none, Cond.fieldLink RX3 56 "GoalLifts$Cars" "state" "[I", Cond.fieldLink RX3 67 "GoalLifts$Cars" "floor" "[I", Cond.methodLink RX3 134 yX0_loseCar, Cond.instanceMethod yX0_loseCar, Cond.selects RX0 yX0_loseCar yX0_loseCar, Cond.code yX0_loseCar cX0_loseCar 6 none, Cond.methodLink RX0 58 yX0_rides, Cond.instanceMethod yX0_rides, Cond.selects RX0 yX0_rides yX0_rides, Cond.code yX0_rides cX0_rides 3 (some .boolean), Cond.methodLink RX0 54 yX0_waitsFor, Cond.instanceMethod yX0_waitsFor, Cond.selects RX0 yX0_waitsFor yX0_waitsFor, Cond.code yX0_waitsFor cX0_waitsFor 3 (some .boolean)]
def wsX4_worstCar_r4 : List Cond := [Cond.methodLink RX4 72 yX0_numberIn, Cond.instanceMethod yX0_numberIn, Cond.selects RX0 yX0_numberIn yX0_numberIn, Cond.code yX0_numberIn cX0_numberIn 4 (some .int), Cond.methodLink RX4 95 yX3_oneTick, Cond.instanceMethod yX3_oneTick, Cond.selects RX3 yX3_oneTick yX3_oneTick, Cond.code yX3_oneTick cX3_oneTick 2 none, Cond.fieldLink RX3 96 "GoalLifts$Callers" "count" "I", Cond.fieldLink RX3 97 "GoalLifts$Callers" "phase" "[I", Cond.fieldLink RX3 100 "GoalLifts$Callers" "floor" "[I", Cond.fieldLink RX3 101 "GoalLifts$Callers" "goal" "[I", Cond.fieldLink RX3 85 "GoalLifts$Cars" "count" "I", Cond.methodLink RX3 104 yX3_bestCar, Cond.instanceMethod yX3_bestCar, Cond.selects RX3 yX3_bestCar yX3_bestCar, Cond.code yX3_bestCar cX3_bestCar 7 (some .int), Cond.methodLink RX3 88 yX3_canBeGiven, Cond.instanceMethod yX3_canBeGiven, Cond.selects RX3 yX3_canBeGiven yX3_canBeGiven, Cond.code yX3_canBeGiven cX3_canBeGiven 4 (some .boolean), Cond.methodLink RX3 59 yX3_isAwake, Cond.instanceMethod yX3_isAwake, Cond.selects RX3 yX3_isAwake yX3_isAwake]
def wsX4_worstCar_r5 : List Cond := [Cond.code yX3_isAwake cX3_isAwake 2 (some .boolean), Cond.methodLink RX3 52 yX3_hour, Cond.instanceMethod yX3_hour, Cond.selects RX3 yX3_hour yX3_hour, Cond.code yX3_hour cX3_hour 1 (some .int), Cond.methodLink RX3 46 yJ9_floorMod_7cf53, Cond.static yJ9_floorMod_7cf53, Cond.initialized RJ9, Cond.code yJ9_floorMod_7cf53 cJ9_floorMod_7cf53 3 (some .int), Cond.methodLink RX3 63 yX1_serves, Cond.instanceMethod yX1_serves, Cond.selects RX1 yX1_serves yX1_serves, Cond.code yX1_serves cX1_serves 3 (some .boolean), Cond.methodLink RX3 92 yX3_costOf, Cond.instanceMethod yX3_costOf, Cond.selects RX3 yX3_costOf yX3_costOf, Cond.code yX3_costOf cX3_costOf 6 (some .int), Cond.methodLink RX3 70 Lib.Math.abs.name, Cond.static Lib.Math.abs.name, Cond.initialized "java/lang/Math", Cond.code Lib.Math.abs.name Lib.Math.abs.code 1 (some .int), Cond.methodLink RX3 74 yX0_stopsOf, Cond.instanceMethod yX0_stopsOf, Cond.selects RX0 yX0_stopsOf yX0_stopsOf]
def wsX4_worstCar_r6 : List Cond := [Cond.code yX0_stopsOf cX0_stopsOf 4 (some .int), Cond.methodLink RX3 77 yJ6_bitCount_0f7a4, Cond.static yJ6_bitCount_0f7a4, Cond.initialized RJ6, Cond.code yJ6_bitCount_0f7a4 cJ6_bitCount_0f7a4 1 (some .int), Cond.constant RJ6 265 (1431655765), Cond.constant RJ6 266 (858993459), Cond.constant RJ6 267 (252645135), Cond.methodLink RX3 82 yX0_numberWith, Cond.instanceMethod yX0_numberWith, Cond.selects RX0 yX0_numberWith yX0_numberWith, Cond.code yX0_numberWith cX0_numberWith 2 (some .int), Cond.methodLink RX0 50 yX0_numberOf, Cond.instanceMethod yX0_numberOf, Cond.selects RX0 yX0_numberOf yX0_numberOf, Cond.code yX0_numberOf cX0_numberOf 5 (some .int), Cond.methodLink RX3 107 yX0_give, Cond.instanceMethod yX0_give, Cond.selects RX0 yX0_give yX0_give, Cond.code yX0_give cX0_give 3 none, Cond.methodLink RX0 46 yX0_has, Cond.instanceMethod yX0_has, Cond.selects RX0 yX0_has yX0_has, Cond.code yX0_has cX0_has 2 (some .boolean)]
def wsX4_worstCar_r7 : List Cond := [Cond.methodLink RX3 111 yX3_stopOrTravel, Cond.instanceMethod yX3_stopOrTravel, Cond.selects RX3 yX3_stopOrTravel yX3_stopOrTravel, Cond.code yX3_stopOrTravel cX3_stopOrTravel 6 none, Cond.fieldLink RX3 118 "GoalLifts$Cars" "places" "[I", Cond.fieldLink RX3 125 "GoalLifts$Cars" "stopsMade" "I", Cond.methodLink RX3 115 yX0_letOut, Cond.instanceMethod yX0_letOut, Cond.selects RX0 yX0_letOut yX0_letOut, Cond.code yX0_letOut cX0_letOut 6 (some .int), Cond.methodLink RX3 121 yX0_takeIn, Cond.instanceMethod yX0_takeIn, Cond.selects RX0 yX0_takeIn yX0_takeIn, Cond.code yX0_takeIn cX0_takeIn 8 (some .int), Cond.methodLink RX3 128 yX0_aimOf, Cond.instanceMethod yX0_aimOf, Cond.selects RX0 yX0_aimOf yX0_aimOf, Cond.code yX0_aimOf cX0_aimOf 6 (some .int), Cond.methodLink RX0 61 yX0_isNearer, Cond.static yX0_isNearer, Cond.code yX0_isNearer cX0_isNearer 5 (some .boolean), Cond.methodLink RX0 65 Lib.Math.abs.name, Cond.methodLink RX3 131 yX1_travelTowards, Cond.instanceMethod yX1_travelTowards]
def wsX4_worstCar_r8 : List Cond := [Cond.selects RX1 yX1_travelTowards yX1_travelTowards, Cond.code yX1_travelTowards cX1_travelTowards 3 none]
def wsX4_worstCar : List Cond := .code yX4_worstCar cX4_worstCar 6 (some .int) :: ((wsX4_worstCar_r1 ++ (wsX4_worstCar_r2 ++ (wsX4_worstCar_r3 ++ (wsX4_worstCar_r4 ++ (wsX4_worstCar_r5 ++ (wsX4_worstCar_r6 ++ (wsX4_worstCar_r7 ++ wsX4_worstCar_r8))))))) ++ wsX40 ++ wsX30 ++ wsX10 ++ wsX00)
def wsX5_init : List Cond := .code yX5_init cX5_init 2 none :: ([.methodLink RX5 1 objectInit, .instanceMethod objectInit, .code objectInit ⟨#[0xb1]⟩ 1 none, .arrayClass .int, .fieldLink RX5 7 "GoalLiftsModel" "s" "[I", .fieldLink RX5 13 "GoalLiftsModel" "past" "[I", .fieldLink RX5 16 "GoalLiftsModel" "held" "[I", .fieldLink RX5 19 "GoalLiftsModel" "tried" "[I"] ++ wsX50)
def wsX5_in : List Cond := .code yX5_in cX5_in 3 (some .boolean) :: ([])
def wsX5_acts : List Cond := .code yX5_acts cX5_acts 2 none :: ([.fieldLink RX5 22 "GoalLiftsModel" "pasts" "I", .fieldLink RX5 13 "GoalLiftsModel" "past" "[I", .fieldLink RX5 7 "GoalLiftsModel" "s" "[I"] ++ wsX50)
def wsX5_copies : List Cond := .code yX5_copies cX5_copies 3 none :: ([])
def wsX5_isCar : List Cond := .code yX5_isCar cX5_isCar 2 (some .boolean) :: ([.fieldLink RX5 7 "GoalLiftsModel" "s" "[I"] ++ wsX50)
def wsX5_isCaller : List Cond := .code yX5_isCaller cX5_isCaller 2 (some .boolean) :: ([.fieldLink RX5 7 "GoalLiftsModel" "s" "[I"] ++ wsX50)
def wsX5_isFloor : List Cond := .code yX5_isFloor cX5_isFloor 1 (some .boolean) :: ([.methodLink RX5 26 yX5_in, .static yX5_in, .initialized RX5, .code yX5_in cX5_in 3 (some .boolean)])
def wsX5_ofCar : List Cond := .code yX5_ofCar cX5_ofCar 3 (some .int) :: ([.fieldLink RX5 7 "GoalLiftsModel" "s" "[I"] ++ wsX50)
def wsX5_putsCar : List Cond := .code yX5_putsCar cX5_putsCar 4 none :: ([.fieldLink RX5 7 "GoalLiftsModel" "s" "[I"] ++ wsX50)
def wsX5_ofCaller : List Cond := .code yX5_ofCaller cX5_ofCaller 3 (some .int) :: ([.fieldLink RX5 7 "GoalLiftsModel" "s" "[I"] ++ wsX50)
def wsX5_puts : List Cond := .code yX5_puts cX5_puts 4 none :: ([.fieldLink RX5 7 "GoalLiftsModel" "s" "[I"] ++ wsX50)
def wsX5_hour : List Cond := .code yX5_hour cX5_hour 1 (some .int) :: ([.fieldLink RX5 7 "GoalLiftsModel" "s" "[I"] ++ wsX50)
def wsX5_isAwake : List Cond := .code yX5_isAwake cX5_isAwake 2 (some .boolean) :: ([.fieldLink RX5 7 "GoalLiftsModel" "s" "[I", .methodLink RX5 30 yX5_hour, .instanceMethod yX5_hour, .selects RX5 yX5_hour yX5_hour, .initialized RX5, .code yX5_hour cX5_hour 1 (some .int)] ++ wsX50)
def wsX5_many : List Cond := .code yX5_many cX5_many 5 (some .int) :: ([.fieldLink RX5 7 "GoalLiftsModel" "s" "[I", .methodLink RX5 34 yX5_ofCaller, .instanceMethod yX5_ofCaller, .selects RX5 yX5_ofCaller yX5_ofCaller, .initialized RX5, .code yX5_ofCaller cX5_ofCaller 3 (some .int)] ++ wsX50)
def wsX5_inAll : List Cond := .code yX5_inAll cX5_inAll 4 (some .int) :: ([.fieldLink RX5 7 "GoalLiftsModel" "s" "[I", .methodLink RX5 34 yX5_ofCaller, .instanceMethod yX5_ofCaller, .selects RX5 yX5_ofCaller yX5_ofCaller, .initialized RX5, .code yX5_ofCaller cX5_ofCaller 3 (some .int)] ++ wsX50)
def wsX5_stops : List Cond := .code yX5_stops cX5_stops 4 (some .int) :: ([.fieldLink RX5 7 "GoalLiftsModel" "s" "[I", .methodLink RX5 34 yX5_ofCaller, .instanceMethod yX5_ofCaller, .selects RX5 yX5_ofCaller yX5_ofCaller, .initialized RX5, .code yX5_ofCaller cX5_ofCaller 3 (some .int), .methodLink RX5 26 yX5_in, .static yX5_in, .code yX5_in cX5_in 3 (some .boolean)] ++ wsX50)
def wsX5_ones : List Cond := .code yX5_ones cX5_ones 3 (some .int) :: ([])
def wsX5_far : List Cond := .code yX5_far cX5_far 2 (some .int) :: ([])
def wsX5_canBeGiven : List Cond := .code yX5_canBeGiven cX5_canBeGiven 5 (some .boolean) :: ([.methodLink RX5 38 yX5_ofCar, .instanceMethod yX5_ofCar, .selects RX5 yX5_ofCar yX5_ofCar, .initialized RX5, .code yX5_ofCar cX5_ofCar 3 (some .int), .fieldLink RX5 7 "GoalLiftsModel" "s" "[I", .methodLink RX5 41 yX5_isAwake, .instanceMethod yX5_isAwake, .selects RX5 yX5_isAwake yX5_isAwake, .code yX5_isAwake cX5_isAwake 2 (some .boolean), .methodLink RX5 30 yX5_hour, .instanceMethod yX5_hour, .selects RX5 yX5_hour yX5_hour, .code yX5_hour cX5_hour 1 (some .int), .methodLink RX5 26 yX5_in, .static yX5_in, .code yX5_in cX5_in 3 (some .boolean)] ++ wsX50)
def wsX5_costOf_r1 : List Cond := [Cond.methodLink RX5 45 yX5_stops, Cond.instanceMethod yX5_stops, Cond.selects RX5 yX5_stops yX5_stops, Cond.initialized RX5, Cond.code yX5_stops cX5_stops 4 (some .int), Cond.fieldLink RX5 7 "GoalLiftsModel" "s" "[I", Cond.methodLink RX5 34 yX5_ofCaller, Cond.instanceMethod yX5_ofCaller, Cond.selects RX5 yX5_ofCaller yX5_ofCaller, Cond.code yX5_ofCaller cX5_ofCaller 3 (some .int), Cond.methodLink RX5 26 yX5_in, Cond.static yX5_in, Cond.code yX5_in cX5_in 3 (some .boolean), Cond.methodLink RX5 49 yX5_ones, Cond.static yX5_ones, Cond.code yX5_ones cX5_ones 3 (some .int), Cond.methodLink RX5 38 yX5_ofCar, Cond.instanceMethod yX5_ofCar, Cond.selects RX5 yX5_ofCar yX5_ofCar, Cond.code yX5_ofCar cX5_ofCar 3 (some .int), Cond.methodLink RX5 52 yX5_far, Cond.static yX5_far, Cond.code yX5_far cX5_far 2 (some .int), Cond.methodLink RX5 55 yX5_many]
def wsX5_costOf_r2 : List Cond := [Cond.instanceMethod yX5_many, Cond.selects RX5 yX5_many yX5_many, Cond.code yX5_many cX5_many 5 (some .int)]
def wsX5_costOf : List Cond := .code yX5_costOf cX5_costOf 5 (some .int) :: ((wsX5_costOf_r1 ++ wsX5_costOf_r2) ++ wsX50)
def wsX5_best_r1 : List Cond := [Cond.fieldLink RX5 7 "GoalLiftsModel" "s" "[I", Cond.methodLink RX5 58 yX5_canBeGiven, Cond.instanceMethod yX5_canBeGiven, Cond.selects RX5 yX5_canBeGiven yX5_canBeGiven, Cond.initialized RX5, Cond.code yX5_canBeGiven cX5_canBeGiven 5 (some .boolean), Cond.methodLink RX5 38 yX5_ofCar, Cond.instanceMethod yX5_ofCar, Cond.selects RX5 yX5_ofCar yX5_ofCar, Cond.code yX5_ofCar cX5_ofCar 3 (some .int), Cond.methodLink RX5 41 yX5_isAwake, Cond.instanceMethod yX5_isAwake, Cond.selects RX5 yX5_isAwake yX5_isAwake, Cond.code yX5_isAwake cX5_isAwake 2 (some .boolean), Cond.methodLink RX5 30 yX5_hour, Cond.instanceMethod yX5_hour, Cond.selects RX5 yX5_hour yX5_hour, Cond.code yX5_hour cX5_hour 1 (some .int), Cond.methodLink RX5 26 yX5_in, Cond.static yX5_in, Cond.code yX5_in cX5_in 3 (some .boolean), Cond.methodLink RX5 61 yX5_costOf, Cond.instanceMethod yX5_costOf, Cond.selects RX5 yX5_costOf yX5_costOf]
def wsX5_best_r2 : List Cond := [Cond.code yX5_costOf cX5_costOf 5 (some .int), Cond.methodLink RX5 45 yX5_stops, Cond.instanceMethod yX5_stops, Cond.selects RX5 yX5_stops yX5_stops, Cond.code yX5_stops cX5_stops 4 (some .int), Cond.methodLink RX5 34 yX5_ofCaller, Cond.instanceMethod yX5_ofCaller, Cond.selects RX5 yX5_ofCaller yX5_ofCaller, Cond.code yX5_ofCaller cX5_ofCaller 3 (some .int), Cond.methodLink RX5 49 yX5_ones, Cond.static yX5_ones, Cond.code yX5_ones cX5_ones 3 (some .int), Cond.methodLink RX5 52 yX5_far, Cond.static yX5_far, Cond.code yX5_far cX5_far 2 (some .int), Cond.methodLink RX5 55 yX5_many, Cond.instanceMethod yX5_many, Cond.selects RX5 yX5_many yX5_many, Cond.code yX5_many cX5_many 5 (some .int)]
def wsX5_best : List Cond := .code yX5_best cX5_best 8 (some .int) :: ((wsX5_best_r1 ++ wsX5_best_r2) ++ wsX50)
def wsX5_gives_r1 : List Cond := [Cond.methodLink RX5 34 yX5_ofCaller, Cond.instanceMethod yX5_ofCaller, Cond.selects RX5 yX5_ofCaller yX5_ofCaller, Cond.initialized RX5, Cond.code yX5_ofCaller cX5_ofCaller 3 (some .int), Cond.fieldLink RX5 7 "GoalLiftsModel" "s" "[I", Cond.methodLink RX5 65 yX5_best, Cond.instanceMethod yX5_best, Cond.selects RX5 yX5_best yX5_best, Cond.code yX5_best cX5_best 8 (some .int), Cond.methodLink RX5 58 yX5_canBeGiven, Cond.instanceMethod yX5_canBeGiven, Cond.selects RX5 yX5_canBeGiven yX5_canBeGiven, Cond.code yX5_canBeGiven cX5_canBeGiven 5 (some .boolean), Cond.methodLink RX5 38 yX5_ofCar, Cond.instanceMethod yX5_ofCar, Cond.selects RX5 yX5_ofCar yX5_ofCar, Cond.code yX5_ofCar cX5_ofCar 3 (some .int), Cond.methodLink RX5 41 yX5_isAwake, Cond.instanceMethod yX5_isAwake, Cond.selects RX5 yX5_isAwake yX5_isAwake, Cond.code yX5_isAwake cX5_isAwake 2 (some .boolean), Cond.methodLink RX5 30 yX5_hour, Cond.instanceMethod yX5_hour]
def wsX5_gives_r2 : List Cond := [Cond.selects RX5 yX5_hour yX5_hour, Cond.code yX5_hour cX5_hour 1 (some .int), Cond.methodLink RX5 26 yX5_in, Cond.static yX5_in, Cond.code yX5_in cX5_in 3 (some .boolean), Cond.methodLink RX5 61 yX5_costOf, Cond.instanceMethod yX5_costOf, Cond.selects RX5 yX5_costOf yX5_costOf, Cond.code yX5_costOf cX5_costOf 5 (some .int), Cond.methodLink RX5 45 yX5_stops, Cond.instanceMethod yX5_stops, Cond.selects RX5 yX5_stops yX5_stops, Cond.code yX5_stops cX5_stops 4 (some .int), Cond.methodLink RX5 49 yX5_ones, Cond.static yX5_ones, Cond.code yX5_ones cX5_ones 3 (some .int), Cond.methodLink RX5 52 yX5_far, Cond.static yX5_far, Cond.code yX5_far cX5_far 2 (some .int), Cond.methodLink RX5 55 yX5_many, Cond.instanceMethod yX5_many, Cond.selects RX5 yX5_many yX5_many, Cond.code yX5_many cX5_many 5 (some .int), Cond.methodLink RX5 68 yX5_puts]
def wsX5_gives_r3 : List Cond := [Cond.instanceMethod yX5_puts, Cond.selects RX5 yX5_puts yX5_puts, Cond.code yX5_puts cX5_puts 4 none]
def wsX5_gives : List Cond := .code yX5_gives cX5_gives 3 none :: ((wsX5_gives_r1 ++ (wsX5_gives_r2 ++ wsX5_gives_r3)) ++ wsX50)
def wsX5_aim : List Cond := .code yX5_aim cX5_aim 8 (some .int) :: ([.fieldLink RX5 7 "GoalLiftsModel" "s" "[I", .methodLink RX5 38 yX5_ofCar, .instanceMethod yX5_ofCar, .selects RX5 yX5_ofCar yX5_ofCar, .initialized RX5, .code yX5_ofCar cX5_ofCar 3 (some .int), .methodLink RX5 34 yX5_ofCaller, .instanceMethod yX5_ofCaller, .selects RX5 yX5_ofCaller yX5_ofCaller, .code yX5_ofCaller cX5_ofCaller 3 (some .int), .methodLink RX5 52 yX5_far, .static yX5_far, .code yX5_far cX5_far 2 (some .int)] ++ wsX50)
def wsX5_isOut : List Cond := .code yX5_isOut cX5_isOut 3 (some .boolean) :: ([.methodLink RX5 34 yX5_ofCaller, .instanceMethod yX5_ofCaller, .selects RX5 yX5_ofCaller yX5_ofCaller, .initialized RX5, .code yX5_ofCaller cX5_ofCaller 3 (some .int), .fieldLink RX5 7 "GoalLiftsModel" "s" "[I", .methodLink RX5 38 yX5_ofCar, .instanceMethod yX5_ofCar, .selects RX5 yX5_ofCar yX5_ofCar, .code yX5_ofCar cX5_ofCar 3 (some .int)] ++ wsX50)
def wsX5_isTaken : List Cond := .code yX5_isTaken cX5_isTaken 3 (some .boolean) :: ([.methodLink RX5 34 yX5_ofCaller, .instanceMethod yX5_ofCaller, .selects RX5 yX5_ofCaller yX5_ofCaller, .initialized RX5, .code yX5_ofCaller cX5_ofCaller 3 (some .int), .fieldLink RX5 7 "GoalLiftsModel" "s" "[I", .methodLink RX5 38 yX5_ofCar, .instanceMethod yX5_ofCar, .selects RX5 yX5_ofCar yX5_ofCar, .code yX5_ofCar cX5_ofCar 3 (some .int)] ++ wsX50)
def wsX5_isStop : List Cond := .code yX5_isStop cX5_isStop 5 (some .boolean) :: ([.fieldLink RX5 7 "GoalLiftsModel" "s" "[I", .methodLink RX5 72 yX5_isOut, .instanceMethod yX5_isOut, .selects RX5 yX5_isOut yX5_isOut, .initialized RX5, .code yX5_isOut cX5_isOut 3 (some .boolean), .methodLink RX5 34 yX5_ofCaller, .instanceMethod yX5_ofCaller, .selects RX5 yX5_ofCaller yX5_ofCaller, .code yX5_ofCaller cX5_ofCaller 3 (some .int), .methodLink RX5 38 yX5_ofCar, .instanceMethod yX5_ofCar, .selects RX5 yX5_ofCar yX5_ofCar, .code yX5_ofCar cX5_ofCar 3 (some .int), .methodLink RX5 76 yX5_isTaken, .instanceMethod yX5_isTaken, .selects RX5 yX5_isTaken yX5_isTaken, .code yX5_isTaken cX5_isTaken 3 (some .boolean), .methodLink RX5 55 yX5_many, .instanceMethod yX5_many, .selects RX5 yX5_many yX5_many, .code yX5_many cX5_many 5 (some .int)] ++ wsX50)
def wsX5_stopsNow_r1 : List Cond := [Cond.fieldLink RX5 7 "GoalLiftsModel" "s" "[I", Cond.methodLink RX5 72 yX5_isOut, Cond.instanceMethod yX5_isOut, Cond.selects RX5 yX5_isOut yX5_isOut, Cond.initialized RX5, Cond.code yX5_isOut cX5_isOut 3 (some .boolean), Cond.methodLink RX5 34 yX5_ofCaller, Cond.instanceMethod yX5_ofCaller, Cond.selects RX5 yX5_ofCaller yX5_ofCaller, Cond.code yX5_ofCaller cX5_ofCaller 3 (some .int), Cond.methodLink RX5 38 yX5_ofCar, Cond.instanceMethod yX5_ofCar, Cond.selects RX5 yX5_ofCar yX5_ofCar, Cond.code yX5_ofCar cX5_ofCar 3 (some .int), Cond.methodLink RX5 68 yX5_puts, Cond.instanceMethod yX5_puts, Cond.selects RX5 yX5_puts yX5_puts, Cond.code yX5_puts cX5_puts 4 none, Cond.methodLink RX5 76 yX5_isTaken, Cond.instanceMethod yX5_isTaken, Cond.selects RX5 yX5_isTaken yX5_isTaken, Cond.code yX5_isTaken cX5_isTaken 3 (some .boolean), Cond.methodLink RX5 55 yX5_many, Cond.instanceMethod yX5_many]
def wsX5_stopsNow_r2 : List Cond := [Cond.selects RX5 yX5_many yX5_many, Cond.code yX5_many cX5_many 5 (some .int)]
def wsX5_stopsNow : List Cond := .code yX5_stopsNow cX5_stopsNow 3 none :: ((wsX5_stopsNow_r1 ++ wsX5_stopsNow_r2) ++ wsX50)
def wsX5_ticks_r1 : List Cond := [Cond.fieldLink RX5 7 "GoalLiftsModel" "s" "[I", Cond.methodLink RX5 34 yX5_ofCaller, Cond.instanceMethod yX5_ofCaller, Cond.selects RX5 yX5_ofCaller yX5_ofCaller, Cond.initialized RX5, Cond.code yX5_ofCaller cX5_ofCaller 3 (some .int), Cond.methodLink RX5 79 yX5_gives, Cond.instanceMethod yX5_gives, Cond.selects RX5 yX5_gives yX5_gives, Cond.code yX5_gives cX5_gives 3 none, Cond.methodLink RX5 65 yX5_best, Cond.instanceMethod yX5_best, Cond.selects RX5 yX5_best yX5_best, Cond.code yX5_best cX5_best 8 (some .int), Cond.methodLink RX5 58 yX5_canBeGiven, Cond.instanceMethod yX5_canBeGiven, Cond.selects RX5 yX5_canBeGiven yX5_canBeGiven, Cond.code yX5_canBeGiven cX5_canBeGiven 5 (some .boolean), Cond.methodLink RX5 38 yX5_ofCar, Cond.instanceMethod yX5_ofCar, Cond.selects RX5 yX5_ofCar yX5_ofCar, Cond.code yX5_ofCar cX5_ofCar 3 (some .int), Cond.methodLink RX5 41 yX5_isAwake, Cond.instanceMethod yX5_isAwake]
def wsX5_ticks_r2 : List Cond := [Cond.selects RX5 yX5_isAwake yX5_isAwake, Cond.code yX5_isAwake cX5_isAwake 2 (some .boolean), Cond.methodLink RX5 30 yX5_hour, Cond.instanceMethod yX5_hour, Cond.selects RX5 yX5_hour yX5_hour, Cond.code yX5_hour cX5_hour 1 (some .int), Cond.methodLink RX5 26 yX5_in, Cond.static yX5_in, Cond.code yX5_in cX5_in 3 (some .boolean), Cond.methodLink RX5 61 yX5_costOf, Cond.instanceMethod yX5_costOf, Cond.selects RX5 yX5_costOf yX5_costOf, Cond.code yX5_costOf cX5_costOf 5 (some .int), Cond.methodLink RX5 45 yX5_stops, Cond.instanceMethod yX5_stops, Cond.selects RX5 yX5_stops yX5_stops, Cond.code yX5_stops cX5_stops 4 (some .int), Cond.methodLink RX5 49 yX5_ones, Cond.static yX5_ones, Cond.code yX5_ones cX5_ones 3 (some .int), Cond.methodLink RX5 52 yX5_far, Cond.static yX5_far, Cond.code yX5_far cX5_far 2 (some .int), Cond.methodLink RX5 55 yX5_many]
def wsX5_ticks_r3 : List Cond := [Cond.instanceMethod yX5_many, Cond.selects RX5 yX5_many yX5_many, Cond.code yX5_many cX5_many 5 (some .int), Cond.methodLink RX5 68 yX5_puts, Cond.instanceMethod yX5_puts, Cond.selects RX5 yX5_puts yX5_puts, Cond.code yX5_puts cX5_puts 4 none, Cond.methodLink RX5 83 yX5_aim, Cond.instanceMethod yX5_aim, Cond.selects RX5 yX5_aim yX5_aim, Cond.code yX5_aim cX5_aim 8 (some .int), Cond.methodLink RX5 86 yX5_isStop, Cond.instanceMethod yX5_isStop, Cond.selects RX5 yX5_isStop yX5_isStop, Cond.code yX5_isStop cX5_isStop 5 (some .boolean), Cond.methodLink RX5 72 yX5_isOut, Cond.instanceMethod yX5_isOut, Cond.selects RX5 yX5_isOut yX5_isOut, Cond.code yX5_isOut cX5_isOut 3 (some .boolean), Cond.methodLink RX5 76 yX5_isTaken, Cond.instanceMethod yX5_isTaken, Cond.selects RX5 yX5_isTaken yX5_isTaken, Cond.code yX5_isTaken cX5_isTaken 3 (some .boolean), Cond.methodLink RX5 89 yX5_stopsNow]
def wsX5_ticks_r4 : List Cond := [Cond.instanceMethod yX5_stopsNow, Cond.selects RX5 yX5_stopsNow yX5_stopsNow, Cond.code yX5_stopsNow cX5_stopsNow 3 none, Cond.methodLink RX5 92 yX5_putsCar, Cond.instanceMethod yX5_putsCar, Cond.selects RX5 yX5_putsCar yX5_putsCar, Cond.code yX5_putsCar cX5_putsCar 4 none]
def wsX5_ticks : List Cond := .code yX5_ticks cX5_ticks 3 none :: ((wsX5_ticks_r1 ++ (wsX5_ticks_r2 ++ (wsX5_ticks_r3 ++ wsX5_ticks_r4))) ++ wsX50)
def wsX5_fails_r1 : List Cond := [Cond.fieldLink RX5 7 "GoalLiftsModel" "s" "[I", Cond.methodLink RX5 34 yX5_ofCaller, Cond.instanceMethod yX5_ofCaller, Cond.selects RX5 yX5_ofCaller yX5_ofCaller, Cond.initialized RX5, Cond.code yX5_ofCaller cX5_ofCaller 3 (some .int), Cond.methodLink RX5 26 yX5_in, Cond.static yX5_in, Cond.code yX5_in cX5_in 3 (some .boolean), Cond.methodLink RX5 72 yX5_isOut, Cond.instanceMethod yX5_isOut, Cond.selects RX5 yX5_isOut yX5_isOut, Cond.code yX5_isOut cX5_isOut 3 (some .boolean), Cond.methodLink RX5 38 yX5_ofCar, Cond.instanceMethod yX5_ofCar, Cond.selects RX5 yX5_ofCar yX5_ofCar, Cond.code yX5_ofCar cX5_ofCar 3 (some .int), Cond.methodLink RX5 68 yX5_puts, Cond.instanceMethod yX5_puts, Cond.selects RX5 yX5_puts yX5_puts, Cond.code yX5_puts cX5_puts 4 none, Cond.methodLink RX5 92 yX5_putsCar, Cond.instanceMethod yX5_putsCar, Cond.selects RX5 yX5_putsCar yX5_putsCar]
def wsX5_fails_r2 : List Cond := [Cond.code yX5_putsCar cX5_putsCar 4 none]
def wsX5_fails : List Cond := .code yX5_fails cX5_fails 4 none :: ((wsX5_fails_r1 ++ wsX5_fails_r2) ++ wsX50)
def wsX5_addCar : List Cond := .code yX5_addCar cX5_addCar 5 (some .int) :: ([.fieldLink RX5 7 "GoalLiftsModel" "s" "[I", .methodLink RX5 26 yX5_in, .static yX5_in, .initialized RX5, .code yX5_in cX5_in 3 (some .boolean), .methodLink RX5 95 yX5_acts, .instanceMethod yX5_acts, .selects RX5 yX5_acts yX5_acts, .code yX5_acts cX5_acts 2 none, .fieldLink RX5 22 "GoalLiftsModel" "pasts" "I", .fieldLink RX5 13 "GoalLiftsModel" "past" "[I", .methodLink RX5 92 yX5_putsCar, .instanceMethod yX5_putsCar, .selects RX5 yX5_putsCar yX5_putsCar, .code yX5_putsCar cX5_putsCar 4 none] ++ wsX50)
def wsX5_setAwake : List Cond := .code yX5_setAwake cX5_setAwake 4 (some .int) :: ([.fieldLink RX5 7 "GoalLiftsModel" "s" "[I", .methodLink RX5 26 yX5_in, .static yX5_in, .initialized RX5, .code yX5_in cX5_in 3 (some .boolean), .methodLink RX5 95 yX5_acts, .instanceMethod yX5_acts, .selects RX5 yX5_acts yX5_acts, .code yX5_acts cX5_acts 2 none, .fieldLink RX5 22 "GoalLiftsModel" "pasts" "I", .fieldLink RX5 13 "GoalLiftsModel" "past" "[I"] ++ wsX50)
def wsX5_hold_r1 : List Cond := [Cond.methodLink RX5 98 yX5_isCar, Cond.instanceMethod yX5_isCar, Cond.selects RX5 yX5_isCar yX5_isCar, Cond.initialized RX5, Cond.code yX5_isCar cX5_isCar 2 (some .boolean), Cond.fieldLink RX5 7 "GoalLiftsModel" "s" "[I", Cond.methodLink RX5 26 yX5_in, Cond.static yX5_in, Cond.code yX5_in cX5_in 3 (some .boolean), Cond.methodLink RX5 38 yX5_ofCar, Cond.instanceMethod yX5_ofCar, Cond.selects RX5 yX5_ofCar yX5_ofCar, Cond.code yX5_ofCar cX5_ofCar 3 (some .int), Cond.methodLink RX5 95 yX5_acts, Cond.instanceMethod yX5_acts, Cond.selects RX5 yX5_acts yX5_acts, Cond.code yX5_acts cX5_acts 2 none, Cond.fieldLink RX5 22 "GoalLiftsModel" "pasts" "I", Cond.fieldLink RX5 13 "GoalLiftsModel" "past" "[I", Cond.methodLink RX5 92 yX5_putsCar, Cond.instanceMethod yX5_putsCar, Cond.selects RX5 yX5_putsCar yX5_putsCar, Cond.code yX5_putsCar cX5_putsCar 4 none, Cond.methodLink RX5 55 yX5_many]
def wsX5_hold_r2 : List Cond := [Cond.instanceMethod yX5_many, Cond.selects RX5 yX5_many yX5_many, Cond.code yX5_many cX5_many 5 (some .int), Cond.methodLink RX5 34 yX5_ofCaller, Cond.instanceMethod yX5_ofCaller, Cond.selects RX5 yX5_ofCaller yX5_ofCaller, Cond.code yX5_ofCaller cX5_ofCaller 3 (some .int)]
def wsX5_hold : List Cond := .code yX5_hold cX5_hold 3 (some .int) :: ((wsX5_hold_r1 ++ wsX5_hold_r2) ++ wsX50)
def wsX5_fail_r1 : List Cond := [Cond.methodLink RX5 98 yX5_isCar, Cond.instanceMethod yX5_isCar, Cond.selects RX5 yX5_isCar yX5_isCar, Cond.initialized RX5, Cond.code yX5_isCar cX5_isCar 2 (some .boolean), Cond.fieldLink RX5 7 "GoalLiftsModel" "s" "[I", Cond.methodLink RX5 38 yX5_ofCar, Cond.instanceMethod yX5_ofCar, Cond.selects RX5 yX5_ofCar yX5_ofCar, Cond.code yX5_ofCar cX5_ofCar 3 (some .int), Cond.methodLink RX5 95 yX5_acts, Cond.instanceMethod yX5_acts, Cond.selects RX5 yX5_acts yX5_acts, Cond.code yX5_acts cX5_acts 2 none, Cond.fieldLink RX5 22 "GoalLiftsModel" "pasts" "I", Cond.fieldLink RX5 13 "GoalLiftsModel" "past" "[I", Cond.methodLink RX5 101 yX5_fails, Cond.instanceMethod yX5_fails, Cond.selects RX5 yX5_fails yX5_fails, Cond.code yX5_fails cX5_fails 4 none, Cond.methodLink RX5 34 yX5_ofCaller, Cond.instanceMethod yX5_ofCaller, Cond.selects RX5 yX5_ofCaller yX5_ofCaller, Cond.code yX5_ofCaller cX5_ofCaller 3 (some .int)]
def wsX5_fail_r2 : List Cond := [Cond.methodLink RX5 26 yX5_in, Cond.static yX5_in, Cond.code yX5_in cX5_in 3 (some .boolean), Cond.methodLink RX5 72 yX5_isOut, Cond.instanceMethod yX5_isOut, Cond.selects RX5 yX5_isOut yX5_isOut, Cond.code yX5_isOut cX5_isOut 3 (some .boolean), Cond.methodLink RX5 68 yX5_puts, Cond.instanceMethod yX5_puts, Cond.selects RX5 yX5_puts yX5_puts, Cond.code yX5_puts cX5_puts 4 none, Cond.methodLink RX5 92 yX5_putsCar, Cond.instanceMethod yX5_putsCar, Cond.selects RX5 yX5_putsCar yX5_putsCar, Cond.code yX5_putsCar cX5_putsCar 4 none, Cond.methodLink RX5 104 yX5_inAll, Cond.instanceMethod yX5_inAll, Cond.selects RX5 yX5_inAll yX5_inAll, Cond.code yX5_inAll cX5_inAll 4 (some .int)]
def wsX5_fail : List Cond := .code yX5_fail cX5_fail 2 (some .int) :: ((wsX5_fail_r1 ++ wsX5_fail_r2) ++ wsX50)
def wsX5_repair : List Cond := .code yX5_repair cX5_repair 2 (some .int) :: ([.methodLink RX5 98 yX5_isCar, .instanceMethod yX5_isCar, .selects RX5 yX5_isCar yX5_isCar, .initialized RX5, .code yX5_isCar cX5_isCar 2 (some .boolean), .fieldLink RX5 7 "GoalLiftsModel" "s" "[I", .methodLink RX5 38 yX5_ofCar, .instanceMethod yX5_ofCar, .selects RX5 yX5_ofCar yX5_ofCar, .code yX5_ofCar cX5_ofCar 3 (some .int), .methodLink RX5 95 yX5_acts, .instanceMethod yX5_acts, .selects RX5 yX5_acts yX5_acts, .code yX5_acts cX5_acts 2 none, .fieldLink RX5 22 "GoalLiftsModel" "pasts" "I", .fieldLink RX5 13 "GoalLiftsModel" "past" "[I", .methodLink RX5 92 yX5_putsCar, .instanceMethod yX5_putsCar, .selects RX5 yX5_putsCar yX5_putsCar, .code yX5_putsCar cX5_putsCar 4 none] ++ wsX50)
def wsX5_isWay : List Cond := .code yX5_isWay cX5_isWay 2 (some .boolean) :: ([.methodLink RX5 107 yX5_isFloor, .static yX5_isFloor, .initialized RX5, .code yX5_isFloor cX5_isFloor 1 (some .boolean), .methodLink RX5 26 yX5_in, .static yX5_in, .code yX5_in cX5_in 3 (some .boolean)])
def wsX5_call_r1 : List Cond := [Cond.fieldLink RX5 7 "GoalLiftsModel" "s" "[I", Cond.methodLink RX5 110 yX5_isWay, Cond.static yX5_isWay, Cond.initialized RX5, Cond.code yX5_isWay cX5_isWay 2 (some .boolean), Cond.methodLink RX5 107 yX5_isFloor, Cond.static yX5_isFloor, Cond.code yX5_isFloor cX5_isFloor 1 (some .boolean), Cond.methodLink RX5 26 yX5_in, Cond.static yX5_in, Cond.code yX5_in cX5_in 3 (some .boolean), Cond.methodLink RX5 95 yX5_acts, Cond.instanceMethod yX5_acts, Cond.selects RX5 yX5_acts yX5_acts, Cond.code yX5_acts cX5_acts 2 none, Cond.fieldLink RX5 22 "GoalLiftsModel" "pasts" "I", Cond.fieldLink RX5 13 "GoalLiftsModel" "past" "[I", Cond.methodLink RX5 68 yX5_puts, Cond.instanceMethod yX5_puts, Cond.selects RX5 yX5_puts yX5_puts, Cond.code yX5_puts cX5_puts 4 none, Cond.methodLink RX5 79 yX5_gives, Cond.instanceMethod yX5_gives, Cond.selects RX5 yX5_gives yX5_gives]
def wsX5_call_r2 : List Cond := [Cond.code yX5_gives cX5_gives 3 none, Cond.methodLink RX5 34 yX5_ofCaller, Cond.instanceMethod yX5_ofCaller, Cond.selects RX5 yX5_ofCaller yX5_ofCaller, Cond.code yX5_ofCaller cX5_ofCaller 3 (some .int), Cond.methodLink RX5 65 yX5_best, Cond.instanceMethod yX5_best, Cond.selects RX5 yX5_best yX5_best, Cond.code yX5_best cX5_best 8 (some .int), Cond.methodLink RX5 58 yX5_canBeGiven, Cond.instanceMethod yX5_canBeGiven, Cond.selects RX5 yX5_canBeGiven yX5_canBeGiven, Cond.code yX5_canBeGiven cX5_canBeGiven 5 (some .boolean), Cond.methodLink RX5 38 yX5_ofCar, Cond.instanceMethod yX5_ofCar, Cond.selects RX5 yX5_ofCar yX5_ofCar, Cond.code yX5_ofCar cX5_ofCar 3 (some .int), Cond.methodLink RX5 41 yX5_isAwake, Cond.instanceMethod yX5_isAwake, Cond.selects RX5 yX5_isAwake yX5_isAwake, Cond.code yX5_isAwake cX5_isAwake 2 (some .boolean), Cond.methodLink RX5 30 yX5_hour, Cond.instanceMethod yX5_hour, Cond.selects RX5 yX5_hour yX5_hour]
def wsX5_call_r3 : List Cond := [Cond.code yX5_hour cX5_hour 1 (some .int), Cond.methodLink RX5 61 yX5_costOf, Cond.instanceMethod yX5_costOf, Cond.selects RX5 yX5_costOf yX5_costOf, Cond.code yX5_costOf cX5_costOf 5 (some .int), Cond.methodLink RX5 45 yX5_stops, Cond.instanceMethod yX5_stops, Cond.selects RX5 yX5_stops yX5_stops, Cond.code yX5_stops cX5_stops 4 (some .int), Cond.methodLink RX5 49 yX5_ones, Cond.static yX5_ones, Cond.code yX5_ones cX5_ones 3 (some .int), Cond.methodLink RX5 52 yX5_far, Cond.static yX5_far, Cond.code yX5_far cX5_far 2 (some .int), Cond.methodLink RX5 55 yX5_many, Cond.instanceMethod yX5_many, Cond.selects RX5 yX5_many yX5_many, Cond.code yX5_many cX5_many 5 (some .int)]
def wsX5_call : List Cond := .code yX5_call cX5_call 4 (some .int) :: ((wsX5_call_r1 ++ (wsX5_call_r2 ++ wsX5_call_r3)) ++ wsX50)
def wsX5_pass_r1 : List Cond := [Cond.fieldLink RX5 7 "GoalLiftsModel" "s" "[I", Cond.methodLink RX5 26 yX5_in, Cond.static yX5_in, Cond.initialized RX5, Cond.code yX5_in cX5_in 3 (some .boolean), Cond.methodLink RX5 95 yX5_acts, Cond.instanceMethod yX5_acts, Cond.selects RX5 yX5_acts yX5_acts, Cond.code yX5_acts cX5_acts 2 none, Cond.fieldLink RX5 22 "GoalLiftsModel" "pasts" "I", Cond.fieldLink RX5 13 "GoalLiftsModel" "past" "[I", Cond.methodLink RX5 113 yX5_ticks, Cond.instanceMethod yX5_ticks, Cond.selects RX5 yX5_ticks yX5_ticks, Cond.code yX5_ticks cX5_ticks 3 none, Cond.methodLink RX5 34 yX5_ofCaller, Cond.instanceMethod yX5_ofCaller, Cond.selects RX5 yX5_ofCaller yX5_ofCaller, Cond.code yX5_ofCaller cX5_ofCaller 3 (some .int), Cond.methodLink RX5 79 yX5_gives, Cond.instanceMethod yX5_gives, Cond.selects RX5 yX5_gives yX5_gives, Cond.code yX5_gives cX5_gives 3 none, Cond.methodLink RX5 65 yX5_best]
def wsX5_pass_r2 : List Cond := [Cond.instanceMethod yX5_best, Cond.selects RX5 yX5_best yX5_best, Cond.code yX5_best cX5_best 8 (some .int), Cond.methodLink RX5 58 yX5_canBeGiven, Cond.instanceMethod yX5_canBeGiven, Cond.selects RX5 yX5_canBeGiven yX5_canBeGiven, Cond.code yX5_canBeGiven cX5_canBeGiven 5 (some .boolean), Cond.methodLink RX5 38 yX5_ofCar, Cond.instanceMethod yX5_ofCar, Cond.selects RX5 yX5_ofCar yX5_ofCar, Cond.code yX5_ofCar cX5_ofCar 3 (some .int), Cond.methodLink RX5 41 yX5_isAwake, Cond.instanceMethod yX5_isAwake, Cond.selects RX5 yX5_isAwake yX5_isAwake, Cond.code yX5_isAwake cX5_isAwake 2 (some .boolean), Cond.methodLink RX5 30 yX5_hour, Cond.instanceMethod yX5_hour, Cond.selects RX5 yX5_hour yX5_hour, Cond.code yX5_hour cX5_hour 1 (some .int), Cond.methodLink RX5 61 yX5_costOf, Cond.instanceMethod yX5_costOf, Cond.selects RX5 yX5_costOf yX5_costOf, Cond.code yX5_costOf cX5_costOf 5 (some .int), Cond.methodLink RX5 45 yX5_stops]
def wsX5_pass_r3 : List Cond := [Cond.instanceMethod yX5_stops, Cond.selects RX5 yX5_stops yX5_stops, Cond.code yX5_stops cX5_stops 4 (some .int), Cond.methodLink RX5 49 yX5_ones, Cond.static yX5_ones, Cond.code yX5_ones cX5_ones 3 (some .int), Cond.methodLink RX5 52 yX5_far, Cond.static yX5_far, Cond.code yX5_far cX5_far 2 (some .int), Cond.methodLink RX5 55 yX5_many, Cond.instanceMethod yX5_many, Cond.selects RX5 yX5_many yX5_many, Cond.code yX5_many cX5_many 5 (some .int), Cond.methodLink RX5 68 yX5_puts, Cond.instanceMethod yX5_puts, Cond.selects RX5 yX5_puts yX5_puts, Cond.code yX5_puts cX5_puts 4 none, Cond.methodLink RX5 83 yX5_aim, Cond.instanceMethod yX5_aim, Cond.selects RX5 yX5_aim yX5_aim, Cond.code yX5_aim cX5_aim 8 (some .int), Cond.methodLink RX5 86 yX5_isStop, Cond.instanceMethod yX5_isStop, Cond.selects RX5 yX5_isStop yX5_isStop]
def wsX5_pass_r4 : List Cond := [Cond.code yX5_isStop cX5_isStop 5 (some .boolean), Cond.methodLink RX5 72 yX5_isOut, Cond.instanceMethod yX5_isOut, Cond.selects RX5 yX5_isOut yX5_isOut, Cond.code yX5_isOut cX5_isOut 3 (some .boolean), Cond.methodLink RX5 76 yX5_isTaken, Cond.instanceMethod yX5_isTaken, Cond.selects RX5 yX5_isTaken yX5_isTaken, Cond.code yX5_isTaken cX5_isTaken 3 (some .boolean), Cond.methodLink RX5 89 yX5_stopsNow, Cond.instanceMethod yX5_stopsNow, Cond.selects RX5 yX5_stopsNow yX5_stopsNow, Cond.code yX5_stopsNow cX5_stopsNow 3 none, Cond.methodLink RX5 92 yX5_putsCar, Cond.instanceMethod yX5_putsCar, Cond.selects RX5 yX5_putsCar yX5_putsCar, Cond.code yX5_putsCar cX5_putsCar 4 none, Cond.methodLink RX5 104 yX5_inAll, Cond.instanceMethod yX5_inAll, Cond.selects RX5 yX5_inAll yX5_inAll, Cond.code yX5_inAll cX5_inAll 4 (some .int)]
def wsX5_pass : List Cond := .code yX5_pass cX5_pass 3 (some .int) :: ((wsX5_pass_r1 ++ (wsX5_pass_r2 ++ (wsX5_pass_r3 ++ wsX5_pass_r4))) ++ wsX50)
def wsX5_undo : List Cond := .code yX5_undo cX5_undo 2 (some .int) :: ([.fieldLink RX5 22 "GoalLiftsModel" "pasts" "I", .fieldLink RX5 7 "GoalLiftsModel" "s" "[I", .fieldLink RX5 13 "GoalLiftsModel" "past" "[I"] ++ wsX50)
def wsX5_isOpen : List Cond := .code yX5_isOpen cX5_isOpen 2 (some .boolean) :: ([.methodLink RX5 34 yX5_ofCaller, .instanceMethod yX5_ofCaller, .selects RX5 yX5_ofCaller yX5_ofCaller, .initialized RX5, .code yX5_ofCaller cX5_ofCaller 3 (some .int), .fieldLink RX5 7 "GoalLiftsModel" "s" "[I"] ++ wsX50)
def wsX5_areOne : List Cond := .code yX5_areOne cX5_areOne 3 (some .boolean) :: ([.methodLink RX5 34 yX5_ofCaller, .instanceMethod yX5_ofCaller, .selects RX5 yX5_ofCaller yX5_ofCaller, .initialized RX5, .code yX5_ofCaller cX5_ofCaller 3 (some .int), .fieldLink RX5 7 "GoalLiftsModel" "s" "[I"] ++ wsX50)
def wsX5_isFirst : List Cond := .code yX5_isFirst cX5_isFirst 4 (some .boolean) :: ([.methodLink RX5 116 yX5_isOpen, .instanceMethod yX5_isOpen, .selects RX5 yX5_isOpen yX5_isOpen, .initialized RX5, .code yX5_isOpen cX5_isOpen 2 (some .boolean), .methodLink RX5 34 yX5_ofCaller, .instanceMethod yX5_ofCaller, .selects RX5 yX5_ofCaller yX5_ofCaller, .code yX5_ofCaller cX5_ofCaller 3 (some .int), .fieldLink RX5 7 "GoalLiftsModel" "s" "[I", .methodLink RX5 119 yX5_areOne, .instanceMethod yX5_areOne, .selects RX5 yX5_areOne yX5_areOne, .code yX5_areOne cX5_areOne 3 (some .boolean)] ++ wsX50)
def wsX5_groups : List Cond := .code yX5_groups cX5_groups 3 (some .int) :: ([.fieldLink RX5 7 "GoalLiftsModel" "s" "[I", .methodLink RX5 122 yX5_isFirst, .instanceMethod yX5_isFirst, .selects RX5 yX5_isFirst yX5_isFirst, .initialized RX5, .code yX5_isFirst cX5_isFirst 4 (some .boolean), .methodLink RX5 116 yX5_isOpen, .instanceMethod yX5_isOpen, .selects RX5 yX5_isOpen yX5_isOpen, .code yX5_isOpen cX5_isOpen 2 (some .boolean), .methodLink RX5 34 yX5_ofCaller, .instanceMethod yX5_ofCaller, .selects RX5 yX5_ofCaller yX5_ofCaller, .code yX5_ofCaller cX5_ofCaller 3 (some .int), .methodLink RX5 119 yX5_areOne, .instanceMethod yX5_areOne, .selects RX5 yX5_areOne yX5_areOne, .code yX5_areOne cX5_areOne 3 (some .boolean)] ++ wsX50)
def wsX5_sumOfCars : List Cond := .code yX5_sumOfCars cX5_sumOfCars 5 (some .int) :: ([.fieldLink RX5 7 "GoalLiftsModel" "s" "[I", .methodLink RX5 38 yX5_ofCar, .instanceMethod yX5_ofCar, .selects RX5 yX5_ofCar yX5_ofCar, .initialized RX5, .code yX5_ofCar cX5_ofCar 3 (some .int)] ++ wsX50)
def wsX5_count_r1 : List Cond := [Cond.fieldLink RX5 7 "GoalLiftsModel" "s" "[I", Cond.fieldLink RX5 22 "GoalLiftsModel" "pasts" "I", Cond.methodLink RX5 30 yX5_hour, Cond.instanceMethod yX5_hour, Cond.selects RX5 yX5_hour yX5_hour, Cond.initialized RX5, Cond.code yX5_hour cX5_hour 1 (some .int), Cond.methodLink RX5 104 yX5_inAll, Cond.instanceMethod yX5_inAll, Cond.selects RX5 yX5_inAll yX5_inAll, Cond.code yX5_inAll cX5_inAll 4 (some .int), Cond.methodLink RX5 34 yX5_ofCaller, Cond.instanceMethod yX5_ofCaller, Cond.selects RX5 yX5_ofCaller yX5_ofCaller, Cond.code yX5_ofCaller cX5_ofCaller 3 (some .int), Cond.methodLink RX5 125 yX5_groups, Cond.instanceMethod yX5_groups, Cond.selects RX5 yX5_groups yX5_groups, Cond.code yX5_groups cX5_groups 3 (some .int), Cond.methodLink RX5 122 yX5_isFirst, Cond.instanceMethod yX5_isFirst, Cond.selects RX5 yX5_isFirst yX5_isFirst, Cond.code yX5_isFirst cX5_isFirst 4 (some .boolean), Cond.methodLink RX5 116 yX5_isOpen]
def wsX5_count_r2 : List Cond := [Cond.instanceMethod yX5_isOpen, Cond.selects RX5 yX5_isOpen yX5_isOpen, Cond.code yX5_isOpen cX5_isOpen 2 (some .boolean), Cond.methodLink RX5 119 yX5_areOne, Cond.instanceMethod yX5_areOne, Cond.selects RX5 yX5_areOne yX5_areOne, Cond.code yX5_areOne cX5_areOne 3 (some .boolean), Cond.methodLink RX5 128 yX5_sumOfCars, Cond.instanceMethod yX5_sumOfCars, Cond.selects RX5 yX5_sumOfCars yX5_sumOfCars, Cond.code yX5_sumOfCars cX5_sumOfCars 5 (some .int), Cond.methodLink RX5 38 yX5_ofCar, Cond.instanceMethod yX5_ofCar, Cond.selects RX5 yX5_ofCar yX5_ofCar, Cond.code yX5_ofCar cX5_ofCar 3 (some .int)]
def wsX5_count : List Cond := .code yX5_count cX5_count 2 (some .int) :: ((wsX5_count_r1 ++ wsX5_count_r2) ++ wsX50)
def wsX5_car_r1 : List Cond := [Cond.methodLink RX5 98 yX5_isCar, Cond.instanceMethod yX5_isCar, Cond.selects RX5 yX5_isCar yX5_isCar, Cond.initialized RX5, Cond.code yX5_isCar cX5_isCar 2 (some .boolean), Cond.fieldLink RX5 7 "GoalLiftsModel" "s" "[I", Cond.methodLink RX5 38 yX5_ofCar, Cond.instanceMethod yX5_ofCar, Cond.selects RX5 yX5_ofCar yX5_ofCar, Cond.code yX5_ofCar cX5_ofCar 3 (some .int), Cond.methodLink RX5 55 yX5_many, Cond.instanceMethod yX5_many, Cond.selects RX5 yX5_many yX5_many, Cond.code yX5_many cX5_many 5 (some .int), Cond.methodLink RX5 34 yX5_ofCaller, Cond.instanceMethod yX5_ofCaller, Cond.selects RX5 yX5_ofCaller yX5_ofCaller, Cond.code yX5_ofCaller cX5_ofCaller 3 (some .int), Cond.methodLink RX5 45 yX5_stops, Cond.instanceMethod yX5_stops, Cond.selects RX5 yX5_stops yX5_stops, Cond.code yX5_stops cX5_stops 4 (some .int), Cond.methodLink RX5 26 yX5_in, Cond.static yX5_in]
def wsX5_car_r2 : List Cond := [Cond.code yX5_in cX5_in 3 (some .boolean), Cond.methodLink RX5 49 yX5_ones, Cond.static yX5_ones, Cond.code yX5_ones cX5_ones 3 (some .int), Cond.methodLink RX5 83 yX5_aim, Cond.instanceMethod yX5_aim, Cond.selects RX5 yX5_aim yX5_aim, Cond.code yX5_aim cX5_aim 8 (some .int), Cond.methodLink RX5 52 yX5_far, Cond.static yX5_far, Cond.code yX5_far cX5_far 2 (some .int), Cond.methodLink RX5 41 yX5_isAwake, Cond.instanceMethod yX5_isAwake, Cond.selects RX5 yX5_isAwake yX5_isAwake, Cond.code yX5_isAwake cX5_isAwake 2 (some .boolean), Cond.methodLink RX5 30 yX5_hour, Cond.instanceMethod yX5_hour, Cond.selects RX5 yX5_hour yX5_hour, Cond.code yX5_hour cX5_hour 1 (some .int)]
def wsX5_car : List Cond := .code yX5_car cX5_car 3 (some .int) :: ((wsX5_car_r1 ++ wsX5_car_r2) ++ wsX50)
def wsX5_caller : List Cond := .code yX5_caller cX5_caller 3 (some .int) :: ([.methodLink RX5 131 yX5_isCaller, .instanceMethod yX5_isCaller, .selects RX5 yX5_isCaller yX5_isCaller, .initialized RX5, .code yX5_isCaller cX5_isCaller 2 (some .boolean), .fieldLink RX5 7 "GoalLiftsModel" "s" "[I", .methodLink RX5 26 yX5_in, .static yX5_in, .code yX5_in cX5_in 3 (some .boolean), .methodLink RX5 34 yX5_ofCaller, .instanceMethod yX5_ofCaller, .selects RX5 yX5_ofCaller yX5_ofCaller, .code yX5_ofCaller cX5_ofCaller 3 (some .int)] ++ wsX50)
def wsX5_group : List Cond := .code yX5_group cX5_group 7 (some .int) :: ([.fieldLink RX5 7 "GoalLiftsModel" "s" "[I", .methodLink RX5 26 yX5_in, .static yX5_in, .initialized RX5, .code yX5_in cX5_in 3 (some .boolean), .methodLink RX5 122 yX5_isFirst, .instanceMethod yX5_isFirst, .selects RX5 yX5_isFirst yX5_isFirst, .code yX5_isFirst cX5_isFirst 4 (some .boolean), .methodLink RX5 116 yX5_isOpen, .instanceMethod yX5_isOpen, .selects RX5 yX5_isOpen yX5_isOpen, .code yX5_isOpen cX5_isOpen 2 (some .boolean), .methodLink RX5 34 yX5_ofCaller, .instanceMethod yX5_ofCaller, .selects RX5 yX5_ofCaller yX5_ofCaller, .code yX5_ofCaller cX5_ofCaller 3 (some .int), .methodLink RX5 119 yX5_areOne, .instanceMethod yX5_areOne, .selects RX5 yX5_areOne yX5_areOne, .code yX5_areOne cX5_areOne 3 (some .boolean)] ++ wsX50)
def wsX5_cost_r1 : List Cond := [Cond.methodLink RX5 98 yX5_isCar, Cond.instanceMethod yX5_isCar, Cond.selects RX5 yX5_isCar yX5_isCar, Cond.initialized RX5, Cond.code yX5_isCar cX5_isCar 2 (some .boolean), Cond.fieldLink RX5 7 "GoalLiftsModel" "s" "[I", Cond.methodLink RX5 110 yX5_isWay, Cond.static yX5_isWay, Cond.code yX5_isWay cX5_isWay 2 (some .boolean), Cond.methodLink RX5 107 yX5_isFloor, Cond.static yX5_isFloor, Cond.code yX5_isFloor cX5_isFloor 1 (some .boolean), Cond.methodLink RX5 26 yX5_in, Cond.static yX5_in, Cond.code yX5_in cX5_in 3 (some .boolean), Cond.methodLink RX5 58 yX5_canBeGiven, Cond.instanceMethod yX5_canBeGiven, Cond.selects RX5 yX5_canBeGiven yX5_canBeGiven, Cond.code yX5_canBeGiven cX5_canBeGiven 5 (some .boolean), Cond.methodLink RX5 38 yX5_ofCar, Cond.instanceMethod yX5_ofCar, Cond.selects RX5 yX5_ofCar yX5_ofCar, Cond.code yX5_ofCar cX5_ofCar 3 (some .int), Cond.methodLink RX5 41 yX5_isAwake]
def wsX5_cost_r2 : List Cond := [Cond.instanceMethod yX5_isAwake, Cond.selects RX5 yX5_isAwake yX5_isAwake, Cond.code yX5_isAwake cX5_isAwake 2 (some .boolean), Cond.methodLink RX5 30 yX5_hour, Cond.instanceMethod yX5_hour, Cond.selects RX5 yX5_hour yX5_hour, Cond.code yX5_hour cX5_hour 1 (some .int), Cond.methodLink RX5 61 yX5_costOf, Cond.instanceMethod yX5_costOf, Cond.selects RX5 yX5_costOf yX5_costOf, Cond.code yX5_costOf cX5_costOf 5 (some .int), Cond.methodLink RX5 45 yX5_stops, Cond.instanceMethod yX5_stops, Cond.selects RX5 yX5_stops yX5_stops, Cond.code yX5_stops cX5_stops 4 (some .int), Cond.methodLink RX5 34 yX5_ofCaller, Cond.instanceMethod yX5_ofCaller, Cond.selects RX5 yX5_ofCaller yX5_ofCaller, Cond.code yX5_ofCaller cX5_ofCaller 3 (some .int), Cond.methodLink RX5 49 yX5_ones, Cond.static yX5_ones, Cond.code yX5_ones cX5_ones 3 (some .int), Cond.methodLink RX5 52 yX5_far, Cond.static yX5_far]
def wsX5_cost_r3 : List Cond := [Cond.code yX5_far cX5_far 2 (some .int), Cond.methodLink RX5 55 yX5_many, Cond.instanceMethod yX5_many, Cond.selects RX5 yX5_many yX5_many, Cond.code yX5_many cX5_many 5 (some .int)]
def wsX5_cost : List Cond := .code yX5_cost cX5_cost 4 (some .int) :: ((wsX5_cost_r1 ++ (wsX5_cost_r2 ++ wsX5_cost_r3)) ++ wsX50)
def wsX5_would_r1 : List Cond := [Cond.methodLink RX5 110 yX5_isWay, Cond.static yX5_isWay, Cond.initialized RX5, Cond.code yX5_isWay cX5_isWay 2 (some .boolean), Cond.methodLink RX5 107 yX5_isFloor, Cond.static yX5_isFloor, Cond.code yX5_isFloor cX5_isFloor 1 (some .boolean), Cond.methodLink RX5 26 yX5_in, Cond.static yX5_in, Cond.code yX5_in cX5_in 3 (some .boolean), Cond.methodLink RX5 65 yX5_best, Cond.instanceMethod yX5_best, Cond.selects RX5 yX5_best yX5_best, Cond.code yX5_best cX5_best 8 (some .int), Cond.fieldLink RX5 7 "GoalLiftsModel" "s" "[I", Cond.methodLink RX5 58 yX5_canBeGiven, Cond.instanceMethod yX5_canBeGiven, Cond.selects RX5 yX5_canBeGiven yX5_canBeGiven, Cond.code yX5_canBeGiven cX5_canBeGiven 5 (some .boolean), Cond.methodLink RX5 38 yX5_ofCar, Cond.instanceMethod yX5_ofCar, Cond.selects RX5 yX5_ofCar yX5_ofCar, Cond.code yX5_ofCar cX5_ofCar 3 (some .int), Cond.methodLink RX5 41 yX5_isAwake]
def wsX5_would_r2 : List Cond := [Cond.instanceMethod yX5_isAwake, Cond.selects RX5 yX5_isAwake yX5_isAwake, Cond.code yX5_isAwake cX5_isAwake 2 (some .boolean), Cond.methodLink RX5 30 yX5_hour, Cond.instanceMethod yX5_hour, Cond.selects RX5 yX5_hour yX5_hour, Cond.code yX5_hour cX5_hour 1 (some .int), Cond.methodLink RX5 61 yX5_costOf, Cond.instanceMethod yX5_costOf, Cond.selects RX5 yX5_costOf yX5_costOf, Cond.code yX5_costOf cX5_costOf 5 (some .int), Cond.methodLink RX5 45 yX5_stops, Cond.instanceMethod yX5_stops, Cond.selects RX5 yX5_stops yX5_stops, Cond.code yX5_stops cX5_stops 4 (some .int), Cond.methodLink RX5 34 yX5_ofCaller, Cond.instanceMethod yX5_ofCaller, Cond.selects RX5 yX5_ofCaller yX5_ofCaller, Cond.code yX5_ofCaller cX5_ofCaller 3 (some .int), Cond.methodLink RX5 49 yX5_ones, Cond.static yX5_ones, Cond.code yX5_ones cX5_ones 3 (some .int), Cond.methodLink RX5 52 yX5_far, Cond.static yX5_far]
def wsX5_would_r3 : List Cond := [Cond.code yX5_far cX5_far 2 (some .int), Cond.methodLink RX5 55 yX5_many, Cond.instanceMethod yX5_many, Cond.selects RX5 yX5_many yX5_many, Cond.code yX5_many cX5_many 5 (some .int)]
def wsX5_would : List Cond := .code yX5_would cX5_would 3 (some .int) :: ((wsX5_would_r1 ++ (wsX5_would_r2 ++ wsX5_would_r3)) ++ wsX50)
def wsX5_thereIn_r1 : List Cond := [Cond.fieldLink RX5 7 "GoalLiftsModel" "s" "[I", Cond.fieldLink RX5 16 "GoalLiftsModel" "held" "[I", Cond.methodLink RX5 131 yX5_isCaller, Cond.instanceMethod yX5_isCaller, Cond.selects RX5 yX5_isCaller yX5_isCaller, Cond.initialized RX5, Cond.code yX5_isCaller cX5_isCaller 2 (some .boolean), Cond.methodLink RX5 134 yX5_copies, Cond.static yX5_copies, Cond.code yX5_copies cX5_copies 3 none, Cond.methodLink RX5 34 yX5_ofCaller, Cond.instanceMethod yX5_ofCaller, Cond.selects RX5 yX5_ofCaller yX5_ofCaller, Cond.code yX5_ofCaller cX5_ofCaller 3 (some .int), Cond.methodLink RX5 113 yX5_ticks, Cond.instanceMethod yX5_ticks, Cond.selects RX5 yX5_ticks yX5_ticks, Cond.code yX5_ticks cX5_ticks 3 none, Cond.methodLink RX5 79 yX5_gives, Cond.instanceMethod yX5_gives, Cond.selects RX5 yX5_gives yX5_gives, Cond.code yX5_gives cX5_gives 3 none, Cond.methodLink RX5 65 yX5_best, Cond.instanceMethod yX5_best]
def wsX5_thereIn_r2 : List Cond := [Cond.selects RX5 yX5_best yX5_best, Cond.code yX5_best cX5_best 8 (some .int), Cond.methodLink RX5 58 yX5_canBeGiven, Cond.instanceMethod yX5_canBeGiven, Cond.selects RX5 yX5_canBeGiven yX5_canBeGiven, Cond.code yX5_canBeGiven cX5_canBeGiven 5 (some .boolean), Cond.methodLink RX5 38 yX5_ofCar, Cond.instanceMethod yX5_ofCar, Cond.selects RX5 yX5_ofCar yX5_ofCar, Cond.code yX5_ofCar cX5_ofCar 3 (some .int), Cond.methodLink RX5 41 yX5_isAwake, Cond.instanceMethod yX5_isAwake, Cond.selects RX5 yX5_isAwake yX5_isAwake, Cond.code yX5_isAwake cX5_isAwake 2 (some .boolean), Cond.methodLink RX5 30 yX5_hour, Cond.instanceMethod yX5_hour, Cond.selects RX5 yX5_hour yX5_hour, Cond.code yX5_hour cX5_hour 1 (some .int), Cond.methodLink RX5 26 yX5_in, Cond.static yX5_in, Cond.code yX5_in cX5_in 3 (some .boolean), Cond.methodLink RX5 61 yX5_costOf, Cond.instanceMethod yX5_costOf, Cond.selects RX5 yX5_costOf yX5_costOf]
def wsX5_thereIn_r3 : List Cond := [Cond.code yX5_costOf cX5_costOf 5 (some .int), Cond.methodLink RX5 45 yX5_stops, Cond.instanceMethod yX5_stops, Cond.selects RX5 yX5_stops yX5_stops, Cond.code yX5_stops cX5_stops 4 (some .int), Cond.methodLink RX5 49 yX5_ones, Cond.static yX5_ones, Cond.code yX5_ones cX5_ones 3 (some .int), Cond.methodLink RX5 52 yX5_far, Cond.static yX5_far, Cond.code yX5_far cX5_far 2 (some .int), Cond.methodLink RX5 55 yX5_many, Cond.instanceMethod yX5_many, Cond.selects RX5 yX5_many yX5_many, Cond.code yX5_many cX5_many 5 (some .int), Cond.methodLink RX5 68 yX5_puts, Cond.instanceMethod yX5_puts, Cond.selects RX5 yX5_puts yX5_puts, Cond.code yX5_puts cX5_puts 4 none, Cond.methodLink RX5 83 yX5_aim, Cond.instanceMethod yX5_aim, Cond.selects RX5 yX5_aim yX5_aim, Cond.code yX5_aim cX5_aim 8 (some .int), Cond.methodLink RX5 86 yX5_isStop]
def wsX5_thereIn_r4 : List Cond := [Cond.instanceMethod yX5_isStop, Cond.selects RX5 yX5_isStop yX5_isStop, Cond.code yX5_isStop cX5_isStop 5 (some .boolean), Cond.methodLink RX5 72 yX5_isOut, Cond.instanceMethod yX5_isOut, Cond.selects RX5 yX5_isOut yX5_isOut, Cond.code yX5_isOut cX5_isOut 3 (some .boolean), Cond.methodLink RX5 76 yX5_isTaken, Cond.instanceMethod yX5_isTaken, Cond.selects RX5 yX5_isTaken yX5_isTaken, Cond.code yX5_isTaken cX5_isTaken 3 (some .boolean), Cond.methodLink RX5 89 yX5_stopsNow, Cond.instanceMethod yX5_stopsNow, Cond.selects RX5 yX5_stopsNow yX5_stopsNow, Cond.code yX5_stopsNow cX5_stopsNow 3 none, Cond.methodLink RX5 92 yX5_putsCar, Cond.instanceMethod yX5_putsCar, Cond.selects RX5 yX5_putsCar yX5_putsCar, Cond.code yX5_putsCar cX5_putsCar 4 none]
def wsX5_thereIn : List Cond := .code yX5_thereIn cX5_thereIn 3 (some .int) :: ((wsX5_thereIn_r1 ++ (wsX5_thereIn_r2 ++ (wsX5_thereIn_r3 ++ wsX5_thereIn_r4))) ++ wsX50)
def wsX5_waited : List Cond := .code yX5_waited cX5_waited 2 (some .int) :: ([.fieldLink RX5 7 "GoalLiftsModel" "s" "[I", .methodLink RX5 34 yX5_ofCaller, .instanceMethod yX5_ofCaller, .selects RX5 yX5_ofCaller yX5_ofCaller, .initialized RX5, .code yX5_ofCaller cX5_ofCaller 3 (some .int)] ++ wsX50)
def wsX5_waits : List Cond := .code yX5_waits cX5_waits 7 (some .int) :: ([.fieldLink RX5 7 "GoalLiftsModel" "s" "[I", .methodLink RX5 26 yX5_in, .static yX5_in, .initialized RX5, .code yX5_in cX5_in 3 (some .boolean), .methodLink RX5 138 yX5_waited, .instanceMethod yX5_waited, .selects RX5 yX5_waited yX5_waited, .code yX5_waited cX5_waited 2 (some .int), .methodLink RX5 34 yX5_ofCaller, .instanceMethod yX5_ofCaller, .selects RX5 yX5_ofCaller yX5_ofCaller, .code yX5_ofCaller cX5_ofCaller 3 (some .int)] ++ wsX50)
def wsX5_allThere_r1 : List Cond := [Cond.fieldLink RX5 7 "GoalLiftsModel" "s" "[I", Cond.methodLink RX5 104 yX5_inAll, Cond.instanceMethod yX5_inAll, Cond.selects RX5 yX5_inAll yX5_inAll, Cond.initialized RX5, Cond.code yX5_inAll cX5_inAll 4 (some .int), Cond.methodLink RX5 34 yX5_ofCaller, Cond.instanceMethod yX5_ofCaller, Cond.selects RX5 yX5_ofCaller yX5_ofCaller, Cond.code yX5_ofCaller cX5_ofCaller 3 (some .int), Cond.methodLink RX5 113 yX5_ticks, Cond.instanceMethod yX5_ticks, Cond.selects RX5 yX5_ticks yX5_ticks, Cond.code yX5_ticks cX5_ticks 3 none, Cond.methodLink RX5 79 yX5_gives, Cond.instanceMethod yX5_gives, Cond.selects RX5 yX5_gives yX5_gives, Cond.code yX5_gives cX5_gives 3 none, Cond.methodLink RX5 65 yX5_best, Cond.instanceMethod yX5_best, Cond.selects RX5 yX5_best yX5_best, Cond.code yX5_best cX5_best 8 (some .int), Cond.methodLink RX5 58 yX5_canBeGiven, Cond.instanceMethod yX5_canBeGiven]
def wsX5_allThere_r2 : List Cond := [Cond.selects RX5 yX5_canBeGiven yX5_canBeGiven, Cond.code yX5_canBeGiven cX5_canBeGiven 5 (some .boolean), Cond.methodLink RX5 38 yX5_ofCar, Cond.instanceMethod yX5_ofCar, Cond.selects RX5 yX5_ofCar yX5_ofCar, Cond.code yX5_ofCar cX5_ofCar 3 (some .int), Cond.methodLink RX5 41 yX5_isAwake, Cond.instanceMethod yX5_isAwake, Cond.selects RX5 yX5_isAwake yX5_isAwake, Cond.code yX5_isAwake cX5_isAwake 2 (some .boolean), Cond.methodLink RX5 30 yX5_hour, Cond.instanceMethod yX5_hour, Cond.selects RX5 yX5_hour yX5_hour, Cond.code yX5_hour cX5_hour 1 (some .int), Cond.methodLink RX5 26 yX5_in, Cond.static yX5_in, Cond.code yX5_in cX5_in 3 (some .boolean), Cond.methodLink RX5 61 yX5_costOf, Cond.instanceMethod yX5_costOf, Cond.selects RX5 yX5_costOf yX5_costOf, Cond.code yX5_costOf cX5_costOf 5 (some .int), Cond.methodLink RX5 45 yX5_stops, Cond.instanceMethod yX5_stops, Cond.selects RX5 yX5_stops yX5_stops]
def wsX5_allThere_r3 : List Cond := [Cond.code yX5_stops cX5_stops 4 (some .int), Cond.methodLink RX5 49 yX5_ones, Cond.static yX5_ones, Cond.code yX5_ones cX5_ones 3 (some .int), Cond.methodLink RX5 52 yX5_far, Cond.static yX5_far, Cond.code yX5_far cX5_far 2 (some .int), Cond.methodLink RX5 55 yX5_many, Cond.instanceMethod yX5_many, Cond.selects RX5 yX5_many yX5_many, Cond.code yX5_many cX5_many 5 (some .int), Cond.methodLink RX5 68 yX5_puts, Cond.instanceMethod yX5_puts, Cond.selects RX5 yX5_puts yX5_puts, Cond.code yX5_puts cX5_puts 4 none, Cond.methodLink RX5 83 yX5_aim, Cond.instanceMethod yX5_aim, Cond.selects RX5 yX5_aim yX5_aim, Cond.code yX5_aim cX5_aim 8 (some .int), Cond.methodLink RX5 86 yX5_isStop, Cond.instanceMethod yX5_isStop, Cond.selects RX5 yX5_isStop yX5_isStop, Cond.code yX5_isStop cX5_isStop 5 (some .boolean), Cond.methodLink RX5 72 yX5_isOut]
def wsX5_allThere_r4 : List Cond := [Cond.instanceMethod yX5_isOut, Cond.selects RX5 yX5_isOut yX5_isOut, Cond.code yX5_isOut cX5_isOut 3 (some .boolean), Cond.methodLink RX5 76 yX5_isTaken, Cond.instanceMethod yX5_isTaken, Cond.selects RX5 yX5_isTaken yX5_isTaken, Cond.code yX5_isTaken cX5_isTaken 3 (some .boolean), Cond.methodLink RX5 89 yX5_stopsNow, Cond.instanceMethod yX5_stopsNow, Cond.selects RX5 yX5_stopsNow yX5_stopsNow, Cond.code yX5_stopsNow cX5_stopsNow 3 none, Cond.methodLink RX5 92 yX5_putsCar, Cond.instanceMethod yX5_putsCar, Cond.selects RX5 yX5_putsCar yX5_putsCar, Cond.code yX5_putsCar cX5_putsCar 4 none]
def wsX5_allThere : List Cond := .code yX5_allThere cX5_allThere 2 (some .int) :: ((wsX5_allThere_r1 ++ (wsX5_allThere_r2 ++ (wsX5_allThere_r3 ++ wsX5_allThere_r4))) ++ wsX50)
def wsX5_worstCar_r1 : List Cond := [Cond.fieldLink RX5 7 "GoalLiftsModel" "s" "[I", Cond.fieldLink RX5 19 "GoalLiftsModel" "tried" "[I", Cond.methodLink RX5 26 yX5_in, Cond.static yX5_in, Cond.initialized RX5, Cond.code yX5_in cX5_in 3 (some .boolean), Cond.methodLink RX5 38 yX5_ofCar, Cond.instanceMethod yX5_ofCar, Cond.selects RX5 yX5_ofCar yX5_ofCar, Cond.code yX5_ofCar cX5_ofCar 3 (some .int), Cond.methodLink RX5 134 yX5_copies, Cond.static yX5_copies, Cond.code yX5_copies cX5_copies 3 none, Cond.methodLink RX5 101 yX5_fails, Cond.instanceMethod yX5_fails, Cond.selects RX5 yX5_fails yX5_fails, Cond.code yX5_fails cX5_fails 4 none, Cond.methodLink RX5 34 yX5_ofCaller, Cond.instanceMethod yX5_ofCaller, Cond.selects RX5 yX5_ofCaller yX5_ofCaller, Cond.code yX5_ofCaller cX5_ofCaller 3 (some .int), Cond.methodLink RX5 72 yX5_isOut, Cond.instanceMethod yX5_isOut, Cond.selects RX5 yX5_isOut yX5_isOut]
def wsX5_worstCar_r2 : List Cond := [Cond.code yX5_isOut cX5_isOut 3 (some .boolean), Cond.methodLink RX5 68 yX5_puts, Cond.instanceMethod yX5_puts, Cond.selects RX5 yX5_puts yX5_puts, Cond.code yX5_puts cX5_puts 4 none, Cond.methodLink RX5 92 yX5_putsCar, Cond.instanceMethod yX5_putsCar, Cond.selects RX5 yX5_putsCar yX5_putsCar, Cond.code yX5_putsCar cX5_putsCar 4 none, Cond.methodLink RX5 141 yX5_allThere, Cond.instanceMethod yX5_allThere, Cond.selects RX5 yX5_allThere yX5_allThere, Cond.code yX5_allThere cX5_allThere 2 (some .int), Cond.methodLink RX5 104 yX5_inAll, Cond.instanceMethod yX5_inAll, Cond.selects RX5 yX5_inAll yX5_inAll, Cond.code yX5_inAll cX5_inAll 4 (some .int), Cond.methodLink RX5 113 yX5_ticks, Cond.instanceMethod yX5_ticks, Cond.selects RX5 yX5_ticks yX5_ticks, Cond.code yX5_ticks cX5_ticks 3 none, Cond.methodLink RX5 79 yX5_gives, Cond.instanceMethod yX5_gives, Cond.selects RX5 yX5_gives yX5_gives]
def wsX5_worstCar_r3 : List Cond := [Cond.code yX5_gives cX5_gives 3 none, Cond.methodLink RX5 65 yX5_best, Cond.instanceMethod yX5_best, Cond.selects RX5 yX5_best yX5_best, Cond.code yX5_best cX5_best 8 (some .int), Cond.methodLink RX5 58 yX5_canBeGiven, Cond.instanceMethod yX5_canBeGiven, Cond.selects RX5 yX5_canBeGiven yX5_canBeGiven, Cond.code yX5_canBeGiven cX5_canBeGiven 5 (some .boolean), Cond.methodLink RX5 41 yX5_isAwake, Cond.instanceMethod yX5_isAwake, Cond.selects RX5 yX5_isAwake yX5_isAwake, Cond.code yX5_isAwake cX5_isAwake 2 (some .boolean), Cond.methodLink RX5 30 yX5_hour, Cond.instanceMethod yX5_hour, Cond.selects RX5 yX5_hour yX5_hour, Cond.code yX5_hour cX5_hour 1 (some .int), Cond.methodLink RX5 61 yX5_costOf, Cond.instanceMethod yX5_costOf, Cond.selects RX5 yX5_costOf yX5_costOf, Cond.code yX5_costOf cX5_costOf 5 (some .int), Cond.methodLink RX5 45 yX5_stops, Cond.instanceMethod yX5_stops, Cond.selects RX5 yX5_stops yX5_stops]
def wsX5_worstCar_r4 : List Cond := [Cond.code yX5_stops cX5_stops 4 (some .int), Cond.methodLink RX5 49 yX5_ones, Cond.static yX5_ones, Cond.code yX5_ones cX5_ones 3 (some .int), Cond.methodLink RX5 52 yX5_far, Cond.static yX5_far, Cond.code yX5_far cX5_far 2 (some .int), Cond.methodLink RX5 55 yX5_many, Cond.instanceMethod yX5_many, Cond.selects RX5 yX5_many yX5_many, Cond.code yX5_many cX5_many 5 (some .int), Cond.methodLink RX5 83 yX5_aim, Cond.instanceMethod yX5_aim, Cond.selects RX5 yX5_aim yX5_aim, Cond.code yX5_aim cX5_aim 8 (some .int), Cond.methodLink RX5 86 yX5_isStop, Cond.instanceMethod yX5_isStop, Cond.selects RX5 yX5_isStop yX5_isStop, Cond.code yX5_isStop cX5_isStop 5 (some .boolean), Cond.methodLink RX5 76 yX5_isTaken, Cond.instanceMethod yX5_isTaken, Cond.selects RX5 yX5_isTaken yX5_isTaken, Cond.code yX5_isTaken cX5_isTaken 3 (some .boolean), Cond.methodLink RX5 89 yX5_stopsNow]
def wsX5_worstCar_r5 : List Cond := [Cond.instanceMethod yX5_stopsNow, Cond.selects RX5 yX5_stopsNow yX5_stopsNow, Cond.code yX5_stopsNow cX5_stopsNow 3 none]
def wsX5_worstCar : List Cond := .code yX5_worstCar cX5_worstCar 6 (some .int) :: ((wsX5_worstCar_r1 ++ (wsX5_worstCar_r2 ++ (wsX5_worstCar_r3 ++ (wsX5_worstCar_r4 ++ wsX5_worstCar_r5)))) ++ wsX50)
def wsJ9_abs_0f7a4 : List Cond := .code yJ9_abs_0f7a4 cJ9_abs_0f7a4 1 (some .int) :: ([])
def wsJ9_min_7cf53 : List Cond := .code yJ9_min_7cf53 cJ9_min_7cf53 2 (some .int) :: ([])
def wsL_law_r1 : List Cond := [Cond.classLink RL 7 RX4, Cond.instantiable RX4 3, Cond.initialized RX4, Cond.classLink RL 10 RX5, Cond.instantiable RX5 5, Cond.initialized RX5, Cond.methodLink RL 9 yX4_init, Cond.instanceMethod yX4_init, Cond.code yX4_init cX4_init 1 none, Cond.methodLink RX4 1 objectInit, Cond.instanceMethod objectInit, Cond.code objectInit ⟨#[0xb1]⟩ 1 none, Cond.classLink RX4 7 RX3, Cond.instantiable RX3 4, Cond.initialized RX3, Cond.fieldLink RX4 10 "GoalLifts" "house" "LGoalLifts$House;", Cond.fieldLink RX4 16 "GoalLifts" "forecast" "LGoalLifts$House;", Cond.classLink RX4 19 RX2, Cond.instantiable RX2 3, Cond.initialized RX2, Cond.fieldLink RX4 22 "GoalLifts" "history" "LGoalLifts$History;", Cond.methodLink RX4 9 yX3_init, Cond.instanceMethod yX3_init, Cond.code yX3_init cX3_init 2 none]
def wsL_law_r2 : List Cond := [Cond.methodLink RX3 3 objectInit, Cond.arrayClass .int, Cond.fieldLink RX3 9 "GoalLifts$House" "awake" "[I", Cond.classLink RX3 15 RX1, Cond.instantiable RX1 8, Cond.initialized RX1, Cond.fieldLink RX3 18 "GoalLifts$House" "cars" "LGoalLifts$Cars;", Cond.classLink RX3 22 RX0, Cond.instantiable RX0 9, Cond.initialized RX0, Cond.fieldLink RX3 25 "GoalLifts$House" "callers" "LGoalLifts$Callers;", Cond.instanceMethod yX1_init, Cond.code yX1_init cX1_init 1 none, Cond.methodLink RX1 3 objectInit, Cond.fieldLink RX1 9 "GoalLifts$Cars" "lowest" "[I", Cond.fieldLink RX1 15 "GoalLifts$Cars" "highest" "[I", Cond.fieldLink RX1 18 "GoalLifts$Cars" "places" "[I", Cond.fieldLink RX1 21 "GoalLifts$Cars" "floor" "[I", Cond.fieldLink RX1 24 "GoalLifts$Cars" "state" "[I", Cond.fieldLink RX1 27 "GoalLifts$Cars" "travelled" "[I", Cond.instanceMethod yX0_init, Cond.code yX0_init cX0_init 1 none, Cond.methodLink RX0 3 objectInit, Cond.fieldLink RX0 9 "GoalLifts$Callers" "floor" "[I"]
def wsL_law_r3 : List Cond := [Cond.fieldLink RX0 15 "GoalLifts$Callers" "goal" "[I", Cond.fieldLink RX0 18 "GoalLifts$Callers" "phase" "[I", Cond.fieldLink RX0 21 "GoalLifts$Callers" "given" "[I", Cond.fieldLink RX0 24 "GoalLifts$Callers" "calledAt" "[I", Cond.fieldLink RX0 27 "GoalLifts$Callers" "rodeAt" "[I", Cond.fieldLink RX0 30 "GoalLifts$Callers" "thereAt" "[I", Cond.fieldLink RX0 33 "GoalLifts$Callers" "timesGiven" "[I", Cond.methodLink RX4 21 yX2_init, Cond.instanceMethod yX2_init, Cond.code yX2_init cX2_init 2 none, Cond.methodLink RX2 3 objectInit, Cond.classLink RX2 9 RX3, Cond.fieldLink RX2 11 "GoalLifts$History" "states" "[LGoalLifts$House;", Cond.methodLink RX2 17 yX3_init, Cond.methodLink RL 12 yX5_init, Cond.instanceMethod yX5_init, Cond.code yX5_init cX5_init 2 none, Cond.methodLink RX5 1 objectInit, Cond.fieldLink RX5 7 "GoalLiftsModel" "s" "[I", Cond.fieldLink RX5 13 "GoalLiftsModel" "past" "[I", Cond.fieldLink RX5 16 "GoalLiftsModel" "held" "[I", Cond.fieldLink RX5 19 "GoalLiftsModel" "tried" "[I", Cond.methodLink RL 13 yX4_addCar, Cond.instanceMethod yX4_addCar]
def wsL_law_r4 : List Cond := [Cond.selects RX4 yX4_addCar yX4_addCar, Cond.code yX4_addCar cX4_addCar 4 (some .int), Cond.fieldLink RX4 30 "GoalLifts$House" "cars" "LGoalLifts$Cars;", Cond.fieldLink RX4 34 "GoalLifts$Cars" "count" "I", Cond.methodLink RX4 26 yX4_isFloor, Cond.static yX4_isFloor, Cond.code yX4_isFloor cX4_isFloor 1 (some .boolean), Cond.methodLink RX4 40 yX2_keep, Cond.instanceMethod yX2_keep, Cond.selects RX2 yX2_keep yX2_keep, Cond.code yX2_keep cX2_keep 3 none, Cond.fieldLink RX2 18 "GoalLifts$History" "next" "I", Cond.fieldLink RX2 32 "GoalLifts$History" "count" "I", Cond.methodLink RX2 35 Lib.Math.min.name, Cond.static Lib.Math.min.name, Cond.initialized "java/lang/Math", Cond.code Lib.Math.min.name Lib.Math.min.code 2 (some .int), Cond.methodLink RX2 22 yX3_copyFrom, Cond.instanceMethod yX3_copyFrom, Cond.selects RX3 yX3_copyFrom yX3_copyFrom, Cond.code yX3_copyFrom cX3_copyFrom 2 none, Cond.fieldLink RX3 29 "GoalLifts$House" "tick" "I", Cond.methodLink RX3 33 arraycopyName, Cond.native arraycopyName]
def wsL_law_r5 : List Cond := [Cond.static arraycopyName, Cond.initialized "java/lang/System", Cond.methodLink RX3 39 yX1_copyFrom, Cond.instanceMethod yX1_copyFrom, Cond.selects RX1 yX1_copyFrom yX1_copyFrom, Cond.code yX1_copyFrom cX1_copyFrom 2 none, Cond.fieldLink RX1 30 "GoalLifts$Cars" "count" "I", Cond.fieldLink RX1 34 "GoalLifts$Cars" "stopsMade" "I", Cond.methodLink RX1 37 arraycopyName, Cond.methodLink RX3 43 yX0_copyFrom, Cond.instanceMethod yX0_copyFrom, Cond.selects RX0 yX0_copyFrom yX0_copyFrom, Cond.code yX0_copyFrom cX0_copyFrom 2 none, Cond.fieldLink RX0 36 "GoalLifts$Callers" "count" "I", Cond.methodLink RX0 40 arraycopyName, Cond.methodLink RX2 26 yJ9_floorMod_7cf53, Cond.static yJ9_floorMod_7cf53, Cond.initialized RJ9, Cond.code yJ9_floorMod_7cf53 cJ9_floorMod_7cf53 3 (some .int), Cond.methodLink RX4 44 yX1_add, Cond.instanceMethod yX1_add, Cond.selects RX1 yX1_add yX1_add, Cond.code yX1_add cX1_add 5 (some .int), Cond.methodLink RL 17 yX5_addCar]
def wsL_law_r6 : List Cond := [Cond.instanceMethod yX5_addCar, Cond.selects RX5 yX5_addCar yX5_addCar, Cond.code yX5_addCar cX5_addCar 5 (some .int), Cond.methodLink RX5 26 yX5_in, Cond.static yX5_in, Cond.code yX5_in cX5_in 3 (some .boolean), Cond.methodLink RX5 95 yX5_acts, Cond.instanceMethod yX5_acts, Cond.selects RX5 yX5_acts yX5_acts, Cond.code yX5_acts cX5_acts 2 none, Cond.fieldLink RX5 22 "GoalLiftsModel" "pasts" "I", Cond.methodLink RX5 92 yX5_putsCar, Cond.instanceMethod yX5_putsCar, Cond.selects RX5 yX5_putsCar yX5_putsCar, Cond.code yX5_putsCar cX5_putsCar 4 none, Cond.methodLink RL 18 yX4_setAwake, Cond.instanceMethod yX4_setAwake, Cond.selects RX4 yX4_setAwake yX4_setAwake, Cond.code yX4_setAwake cX4_setAwake 4 (some .int), Cond.fieldLink RX4 48 "GoalLifts$House" "awake" "[I", Cond.methodLink RL 22 yX5_setAwake, Cond.instanceMethod yX5_setAwake, Cond.selects RX5 yX5_setAwake yX5_setAwake, Cond.code yX5_setAwake cX5_setAwake 4 (some .int)]
def wsL_law_r7 : List Cond := [Cond.methodLink RL 23 yX4_hold, Cond.instanceMethod yX4_hold, Cond.selects RX4 yX4_hold yX4_hold, Cond.code yX4_hold cX4_hold 5 (some .int), Cond.fieldLink RX4 55 "GoalLifts$Cars" "state" "[I", Cond.fieldLink RX4 58 "GoalLifts$House" "callers" "LGoalLifts$Callers;", Cond.methodLink RX4 52 yX1_has, Cond.instanceMethod yX1_has, Cond.selects RX1 yX1_has yX1_has, Cond.code yX1_has cX1_has 2 (some .boolean), Cond.methodLink RX4 62 yX0_numberWith, Cond.instanceMethod yX0_numberWith, Cond.selects RX0 yX0_numberWith yX0_numberWith, Cond.code yX0_numberWith cX0_numberWith 2 (some .int), Cond.methodLink RX0 50 yX0_numberOf, Cond.instanceMethod yX0_numberOf, Cond.selects RX0 yX0_numberOf yX0_numberOf, Cond.code yX0_numberOf cX0_numberOf 5 (some .int), Cond.methodLink RL 26 yX5_hold, Cond.instanceMethod yX5_hold, Cond.selects RX5 yX5_hold yX5_hold, Cond.code yX5_hold cX5_hold 3 (some .int), Cond.methodLink RX5 98 yX5_isCar, Cond.instanceMethod yX5_isCar]
def wsL_law_r8 : List Cond := [Cond.selects RX5 yX5_isCar yX5_isCar, Cond.code yX5_isCar cX5_isCar 2 (some .boolean), Cond.methodLink RX5 38 yX5_ofCar, Cond.instanceMethod yX5_ofCar, Cond.selects RX5 yX5_ofCar yX5_ofCar, Cond.code yX5_ofCar cX5_ofCar 3 (some .int), Cond.methodLink RX5 55 yX5_many, Cond.instanceMethod yX5_many, Cond.selects RX5 yX5_many yX5_many, Cond.code yX5_many cX5_many 5 (some .int), Cond.methodLink RX5 34 yX5_ofCaller, Cond.instanceMethod yX5_ofCaller, Cond.selects RX5 yX5_ofCaller yX5_ofCaller, Cond.code yX5_ofCaller cX5_ofCaller 3 (some .int), Cond.methodLink RL 27 yX4_fail, Cond.instanceMethod yX4_fail, Cond.selects RX4 yX4_fail yX4_fail, Cond.code yX4_fail cX4_fail 2 (some .int), Cond.methodLink RX4 68 yX3_breakCar, Cond.instanceMethod yX3_breakCar, Cond.selects RX3 yX3_breakCar yX3_breakCar, Cond.code yX3_breakCar cX3_breakCar 2 none, Cond.fieldLink RX3 56 "GoalLifts$Cars" "state" "[I", Cond.fieldLink RX3 67 "GoalLifts$Cars" "floor" "[I"]
def wsL_law_r9 : List Cond := [Cond.methodLink RX3 134 yX0_loseCar, Cond.instanceMethod yX0_loseCar, Cond.selects RX0 yX0_loseCar yX0_loseCar, Cond.code yX0_loseCar cX0_loseCar 6 none, Cond.methodLink RX0 58 yX0_rides, Cond.instanceMethod yX0_rides, Cond.selects RX0 yX0_rides yX0_rides, Cond.code yX0_rides cX0_rides 3 (some .boolean), Cond.methodLink RX0 54 yX0_waitsFor, Cond.instanceMethod yX0_waitsFor, Cond.selects RX0 yX0_waitsFor yX0_waitsFor, Cond.code yX0_waitsFor cX0_waitsFor 3 (some .boolean), Cond.methodLink RX4 72 yX0_numberIn, Cond.instanceMethod yX0_numberIn, Cond.selects RX0 yX0_numberIn yX0_numberIn, Cond.code yX0_numberIn cX0_numberIn 4 (some .int), Cond.methodLink RL 31 yX5_fail, Cond.instanceMethod yX5_fail, Cond.selects RX5 yX5_fail yX5_fail, Cond.code yX5_fail cX5_fail 2 (some .int), Cond.methodLink RX5 101 yX5_fails, Cond.instanceMethod yX5_fails, Cond.selects RX5 yX5_fails yX5_fails, Cond.code yX5_fails cX5_fails 4 none]
def wsL_law_r10 : List Cond := [Cond.methodLink RX5 72 yX5_isOut, Cond.instanceMethod yX5_isOut, Cond.selects RX5 yX5_isOut yX5_isOut, Cond.code yX5_isOut cX5_isOut 3 (some .boolean), Cond.methodLink RX5 68 yX5_puts, Cond.instanceMethod yX5_puts, Cond.selects RX5 yX5_puts yX5_puts, Cond.code yX5_puts cX5_puts 4 none, Cond.methodLink RX5 104 yX5_inAll, Cond.instanceMethod yX5_inAll, Cond.selects RX5 yX5_inAll yX5_inAll, Cond.code yX5_inAll cX5_inAll 4 (some .int), Cond.methodLink RL 32 yX4_repair, Cond.instanceMethod yX4_repair, Cond.selects RX4 yX4_repair yX4_repair, Cond.code yX4_repair cX4_repair 2 (some .int), Cond.fieldLink RX4 75 "GoalLifts$Cars" "floor" "[I", Cond.methodLink RL 35 yX5_repair, Cond.instanceMethod yX5_repair, Cond.selects RX5 yX5_repair yX5_repair, Cond.code yX5_repair cX5_repair 2 (some .int), Cond.methodLink RL 36 yX4_call, Cond.instanceMethod yX4_call, Cond.selects RX4 yX4_call yX4_call]
def wsL_law_r11 : List Cond := [Cond.code yX4_call cX4_call 5 (some .int), Cond.fieldLink RX4 82 "GoalLifts$Callers" "count" "I", Cond.fieldLink RX4 87 "GoalLifts$House" "tick" "I", Cond.methodLink RX4 78 yX4_isWay, Cond.static yX4_isWay, Cond.code yX4_isWay cX4_isWay 2 (some .boolean), Cond.methodLink RX4 83 yX3_bestCar, Cond.instanceMethod yX3_bestCar, Cond.selects RX3 yX3_bestCar yX3_bestCar, Cond.code yX3_bestCar cX3_bestCar 7 (some .int), Cond.fieldLink RX3 85 "GoalLifts$Cars" "count" "I", Cond.methodLink RX3 88 yX3_canBeGiven, Cond.instanceMethod yX3_canBeGiven, Cond.selects RX3 yX3_canBeGiven yX3_canBeGiven, Cond.code yX3_canBeGiven cX3_canBeGiven 4 (some .boolean), Cond.methodLink RX3 59 yX3_isAwake, Cond.instanceMethod yX3_isAwake, Cond.selects RX3 yX3_isAwake yX3_isAwake, Cond.code yX3_isAwake cX3_isAwake 2 (some .boolean), Cond.methodLink RX3 52 yX3_hour, Cond.instanceMethod yX3_hour, Cond.selects RX3 yX3_hour yX3_hour, Cond.code yX3_hour cX3_hour 1 (some .int), Cond.methodLink RX3 46 yJ9_floorMod_7cf53]
def wsL_law_r12 : List Cond := [Cond.methodLink RX3 63 yX1_serves, Cond.instanceMethod yX1_serves, Cond.selects RX1 yX1_serves yX1_serves, Cond.code yX1_serves cX1_serves 3 (some .boolean), Cond.methodLink RX3 92 yX3_costOf, Cond.instanceMethod yX3_costOf, Cond.selects RX3 yX3_costOf yX3_costOf, Cond.code yX3_costOf cX3_costOf 6 (some .int), Cond.methodLink RX3 70 Lib.Math.abs.name, Cond.static Lib.Math.abs.name, Cond.code Lib.Math.abs.name Lib.Math.abs.code 1 (some .int), Cond.methodLink RX3 74 yX0_stopsOf, Cond.instanceMethod yX0_stopsOf, Cond.selects RX0 yX0_stopsOf yX0_stopsOf, Cond.code yX0_stopsOf cX0_stopsOf 4 (some .int), Cond.methodLink RX3 77 yJ6_bitCount_0f7a4, Cond.static yJ6_bitCount_0f7a4, Cond.initialized RJ6, Cond.code yJ6_bitCount_0f7a4 cJ6_bitCount_0f7a4 1 (some .int), Cond.constant RJ6 265 (1431655765), Cond.constant RJ6 266 (858993459), Cond.constant RJ6 267 (252645135), Cond.methodLink RX3 82 yX0_numberWith, Cond.methodLink RX4 90 yX0_add]
def wsL_law_r13 : List Cond := [Cond.instanceMethod yX0_add, Cond.selects RX0 yX0_add yX0_add, Cond.code yX0_add cX0_add 5 (some .int), Cond.methodLink RX4 91 yX0_give, Cond.instanceMethod yX0_give, Cond.selects RX0 yX0_give yX0_give, Cond.code yX0_give cX0_give 3 none, Cond.methodLink RX0 46 yX0_has, Cond.instanceMethod yX0_has, Cond.selects RX0 yX0_has yX0_has, Cond.code yX0_has cX0_has 2 (some .boolean), Cond.methodLink RL 39 yX5_call, Cond.instanceMethod yX5_call, Cond.selects RX5 yX5_call yX5_call, Cond.code yX5_call cX5_call 4 (some .int), Cond.methodLink RX5 110 yX5_isWay, Cond.static yX5_isWay, Cond.code yX5_isWay cX5_isWay 2 (some .boolean), Cond.methodLink RX5 107 yX5_isFloor, Cond.static yX5_isFloor, Cond.code yX5_isFloor cX5_isFloor 1 (some .boolean), Cond.methodLink RX5 79 yX5_gives, Cond.instanceMethod yX5_gives, Cond.selects RX5 yX5_gives yX5_gives]
def wsL_law_r14 : List Cond := [Cond.code yX5_gives cX5_gives 3 none, Cond.methodLink RX5 65 yX5_best, Cond.instanceMethod yX5_best, Cond.selects RX5 yX5_best yX5_best, Cond.code yX5_best cX5_best 8 (some .int), Cond.methodLink RX5 58 yX5_canBeGiven, Cond.instanceMethod yX5_canBeGiven, Cond.selects RX5 yX5_canBeGiven yX5_canBeGiven, Cond.code yX5_canBeGiven cX5_canBeGiven 5 (some .boolean), Cond.methodLink RX5 41 yX5_isAwake, Cond.instanceMethod yX5_isAwake, Cond.selects RX5 yX5_isAwake yX5_isAwake, Cond.code yX5_isAwake cX5_isAwake 2 (some .boolean), Cond.methodLink RX5 30 yX5_hour, Cond.instanceMethod yX5_hour, Cond.selects RX5 yX5_hour yX5_hour, Cond.code yX5_hour cX5_hour 1 (some .int), Cond.methodLink RX5 61 yX5_costOf, Cond.instanceMethod yX5_costOf, Cond.selects RX5 yX5_costOf yX5_costOf, Cond.code yX5_costOf cX5_costOf 5 (some .int), Cond.methodLink RX5 45 yX5_stops, Cond.instanceMethod yX5_stops, Cond.selects RX5 yX5_stops yX5_stops]
def wsL_law_r15 : List Cond := [Cond.code yX5_stops cX5_stops 4 (some .int), Cond.methodLink RX5 49 yX5_ones, Cond.static yX5_ones, Cond.code yX5_ones cX5_ones 3 (some .int), Cond.methodLink RX5 52 yX5_far, Cond.static yX5_far, Cond.code yX5_far cX5_far 2 (some .int), Cond.methodLink RL 40 yX4_pass, Cond.instanceMethod yX4_pass, Cond.selects RX4 yX4_pass yX4_pass, Cond.code yX4_pass cX4_pass 3 (some .int), Cond.methodLink RX4 95 yX3_oneTick, Cond.instanceMethod yX3_oneTick, Cond.selects RX3 yX3_oneTick yX3_oneTick, Cond.code yX3_oneTick cX3_oneTick 2 none, Cond.fieldLink RX3 96 "GoalLifts$Callers" "count" "I", Cond.fieldLink RX3 97 "GoalLifts$Callers" "phase" "[I", Cond.fieldLink RX3 100 "GoalLifts$Callers" "floor" "[I", Cond.fieldLink RX3 101 "GoalLifts$Callers" "goal" "[I", Cond.methodLink RX3 104 yX3_bestCar, Cond.methodLink RX3 107 yX0_give, Cond.methodLink RX3 111 yX3_stopOrTravel, Cond.instanceMethod yX3_stopOrTravel, Cond.selects RX3 yX3_stopOrTravel yX3_stopOrTravel]
def wsL_law_r16 : List Cond := [Cond.code yX3_stopOrTravel cX3_stopOrTravel 6 none, Cond.fieldLink RX3 118 "GoalLifts$Cars" "places" "[I", Cond.fieldLink RX3 125 "GoalLifts$Cars" "stopsMade" "I", Cond.methodLink RX3 115 yX0_letOut, Cond.instanceMethod yX0_letOut, Cond.selects RX0 yX0_letOut yX0_letOut, Cond.code yX0_letOut cX0_letOut 6 (some .int), Cond.methodLink RX3 121 yX0_takeIn, Cond.instanceMethod yX0_takeIn, Cond.selects RX0 yX0_takeIn yX0_takeIn, Cond.code yX0_takeIn cX0_takeIn 8 (some .int), Cond.methodLink RX3 128 yX0_aimOf, Cond.instanceMethod yX0_aimOf, Cond.selects RX0 yX0_aimOf yX0_aimOf, Cond.code yX0_aimOf cX0_aimOf 6 (some .int), Cond.methodLink RX0 61 yX0_isNearer, Cond.static yX0_isNearer, Cond.code yX0_isNearer cX0_isNearer 5 (some .boolean), Cond.methodLink RX0 65 Lib.Math.abs.name, Cond.methodLink RX3 131 yX1_travelTowards, Cond.instanceMethod yX1_travelTowards, Cond.selects RX1 yX1_travelTowards yX1_travelTowards, Cond.code yX1_travelTowards cX1_travelTowards 3 none, Cond.methodLink RL 43 yX5_pass]
def wsL_law_r17 : List Cond := [Cond.instanceMethod yX5_pass, Cond.selects RX5 yX5_pass yX5_pass, Cond.code yX5_pass cX5_pass 3 (some .int), Cond.methodLink RX5 113 yX5_ticks, Cond.instanceMethod yX5_ticks, Cond.selects RX5 yX5_ticks yX5_ticks, Cond.code yX5_ticks cX5_ticks 3 none, Cond.methodLink RX5 83 yX5_aim, Cond.instanceMethod yX5_aim, Cond.selects RX5 yX5_aim yX5_aim, Cond.code yX5_aim cX5_aim 8 (some .int), Cond.methodLink RX5 86 yX5_isStop, Cond.instanceMethod yX5_isStop, Cond.selects RX5 yX5_isStop yX5_isStop, Cond.code yX5_isStop cX5_isStop 5 (some .boolean), Cond.methodLink RX5 76 yX5_isTaken, Cond.instanceMethod yX5_isTaken, Cond.selects RX5 yX5_isTaken yX5_isTaken, Cond.code yX5_isTaken cX5_isTaken 3 (some .boolean), Cond.methodLink RX5 89 yX5_stopsNow, Cond.instanceMethod yX5_stopsNow, Cond.selects RX5 yX5_stopsNow yX5_stopsNow, Cond.code yX5_stopsNow cX5_stopsNow 3 none, Cond.methodLink RL 44 yX4_undo]
def wsL_law_r18 : List Cond := [Cond.instanceMethod yX4_undo, Cond.selects RX4 yX4_undo yX4_undo, Cond.code yX4_undo cX4_undo 1 (some .int), Cond.fieldLink RX4 98 "GoalLifts$History" "count" "I", Cond.methodLink RX4 99 yX2_restore, Cond.instanceMethod yX2_restore, Cond.selects RX2 yX2_restore yX2_restore, Cond.code yX2_restore cX2_restore 4 none, Cond.methodLink RL 48 yX5_undo, Cond.instanceMethod yX5_undo, Cond.selects RX5 yX5_undo yX5_undo, Cond.code yX5_undo cX5_undo 2 (some .int), Cond.methodLink RL 49 yX4_count, Cond.instanceMethod yX4_count, Cond.selects RX4 yX4_count yX4_count, Cond.code yX4_count cX4_count 2 (some .int), Cond.fieldLink RX4 112 "GoalLifts$Cars" "stopsMade" "I", Cond.methodLink RX4 102 yX3_hour, Cond.methodLink RX4 106 yX0_numberOfGroups, Cond.instanceMethod yX0_numberOfGroups, Cond.selects RX0 yX0_numberOfGroups yX0_numberOfGroups, Cond.code yX0_numberOfGroups cX0_numberOfGroups 3 (some .int), Cond.methodLink RX0 77 yX0_isFirstOfGroup, Cond.instanceMethod yX0_isFirstOfGroup]
def wsL_law_r19 : List Cond := [Cond.selects RX0 yX0_isFirstOfGroup yX0_isFirstOfGroup, Cond.code yX0_isFirstOfGroup cX0_isFirstOfGroup 3 (some .boolean), Cond.methodLink RX0 74 yX0_sameGroup, Cond.instanceMethod yX0_sameGroup, Cond.selects RX0 yX0_sameGroup yX0_sameGroup, Cond.code yX0_sameGroup cX0_sameGroup 3 (some .boolean), Cond.methodLink RX0 71 yX0_isInGroup, Cond.instanceMethod yX0_isInGroup, Cond.selects RX0 yX0_isInGroup yX0_isInGroup, Cond.code yX0_isInGroup cX0_isInGroup 2 (some .boolean), Cond.methodLink RX4 109 yX1_travelledByAll, Cond.instanceMethod yX1_travelledByAll, Cond.selects RX1 yX1_travelledByAll yX1_travelledByAll, Cond.code yX1_travelledByAll cX1_travelledByAll 3 (some .int), Cond.methodLink RX4 115 yX1_numberIn, Cond.instanceMethod yX1_numberIn, Cond.selects RX1 yX1_numberIn yX1_numberIn, Cond.code yX1_numberIn cX1_numberIn 4 (some .int), Cond.methodLink RL 52 yX5_count, Cond.instanceMethod yX5_count, Cond.selects RX5 yX5_count yX5_count, Cond.code yX5_count cX5_count 2 (some .int), Cond.methodLink RX5 125 yX5_groups, Cond.instanceMethod yX5_groups]
def wsL_law_r20 : List Cond := [Cond.selects RX5 yX5_groups yX5_groups, Cond.code yX5_groups cX5_groups 3 (some .int), Cond.methodLink RX5 122 yX5_isFirst, Cond.instanceMethod yX5_isFirst, Cond.selects RX5 yX5_isFirst yX5_isFirst, Cond.code yX5_isFirst cX5_isFirst 4 (some .boolean), Cond.methodLink RX5 116 yX5_isOpen, Cond.instanceMethod yX5_isOpen, Cond.selects RX5 yX5_isOpen yX5_isOpen, Cond.code yX5_isOpen cX5_isOpen 2 (some .boolean), Cond.methodLink RX5 119 yX5_areOne, Cond.instanceMethod yX5_areOne, Cond.selects RX5 yX5_areOne yX5_areOne, Cond.code yX5_areOne cX5_areOne 3 (some .boolean), Cond.methodLink RX5 128 yX5_sumOfCars, Cond.instanceMethod yX5_sumOfCars, Cond.selects RX5 yX5_sumOfCars yX5_sumOfCars, Cond.code yX5_sumOfCars cX5_sumOfCars 5 (some .int), Cond.methodLink RL 53 yX4_car, Cond.instanceMethod yX4_car, Cond.selects RX4 yX4_car yX4_car, Cond.code yX4_car cX4_car 3 (some .int), Cond.fieldLink RX4 130 "GoalLifts$Cars" "travelled" "[I", Cond.methodLink RX4 116 yX0_numberOf]
def wsL_law_r21 : List Cond := [Cond.methodLink RX4 119 yX0_stopsOf, Cond.methodLink RX4 122 yJ6_bitCount_0f7a4, Cond.methodLink RX4 127 yX0_aimOf, Cond.methodLink RX4 133 yX3_isAwake, Cond.methodLink RL 56 yX5_car, Cond.instanceMethod yX5_car, Cond.selects RX5 yX5_car yX5_car, Cond.code yX5_car cX5_car 3 (some .int), Cond.methodLink RL 57 yX4_caller, Cond.instanceMethod yX4_caller, Cond.selects RX4 yX4_caller yX4_caller, Cond.code yX4_caller cX4_caller 3 (some .int), Cond.fieldLink RX4 137 "GoalLifts$Callers" "floor" "[I", Cond.fieldLink RX4 138 "GoalLifts$Callers" "goal" "[I", Cond.fieldLink RX4 141 "GoalLifts$Callers" "phase" "[I", Cond.fieldLink RX4 144 "GoalLifts$Callers" "given" "[I", Cond.fieldLink RX4 147 "GoalLifts$Callers" "calledAt" "[I", Cond.fieldLink RX4 150 "GoalLifts$Callers" "rodeAt" "[I", Cond.fieldLink RX4 153 "GoalLifts$Callers" "thereAt" "[I", Cond.fieldLink RX4 156 "GoalLifts$Callers" "timesGiven" "[I", Cond.methodLink RX4 136 yX0_has, Cond.methodLink RL 60 yX5_caller, Cond.instanceMethod yX5_caller, Cond.selects RX5 yX5_caller yX5_caller]
def wsL_law_r22 : List Cond := [Cond.code yX5_caller cX5_caller 3 (some .int), Cond.methodLink RX5 131 yX5_isCaller, Cond.instanceMethod yX5_isCaller, Cond.selects RX5 yX5_isCaller yX5_isCaller, Cond.code yX5_isCaller cX5_isCaller 2 (some .boolean), Cond.methodLink RL 61 yX4_group, Cond.instanceMethod yX4_group, Cond.selects RX4 yX4_group yX4_group, Cond.code yX4_group cX4_group 4 (some .int), Cond.methodLink RX4 159 yX0_firstOfGroup, Cond.instanceMethod yX0_firstOfGroup, Cond.selects RX0 yX0_firstOfGroup yX0_firstOfGroup, Cond.code yX0_firstOfGroup cX0_firstOfGroup 4 (some .int), Cond.methodLink RX4 162 yX0_sizeOfGroup, Cond.instanceMethod yX0_sizeOfGroup, Cond.selects RX0 yX0_sizeOfGroup yX0_sizeOfGroup, Cond.code yX0_sizeOfGroup cX0_sizeOfGroup 4 (some .int), Cond.methodLink RL 64 yX5_group, Cond.instanceMethod yX5_group, Cond.selects RX5 yX5_group yX5_group, Cond.code yX5_group cX5_group 7 (some .int), Cond.methodLink RL 65 yX4_cost, Cond.instanceMethod yX4_cost, Cond.selects RX4 yX4_cost yX4_cost]
def wsL_law_r23 : List Cond := [Cond.code yX4_cost cX4_cost 4 (some .int), Cond.methodLink RX4 165 yX3_canBeGiven, Cond.methodLink RX4 169 yX3_costOf, Cond.methodLink RL 68 yX5_cost, Cond.instanceMethod yX5_cost, Cond.selects RX5 yX5_cost yX5_cost, Cond.code yX5_cost cX5_cost 4 (some .int), Cond.methodLink RL 69 yX4_would, Cond.instanceMethod yX4_would, Cond.selects RX4 yX4_would yX4_would, Cond.code yX4_would cX4_would 3 (some .int), Cond.methodLink RL 72 yX5_would, Cond.instanceMethod yX5_would, Cond.selects RX5 yX5_would yX5_would, Cond.code yX5_would cX5_would 3 (some .int), Cond.methodLink RL 73 yX4_thereIn, Cond.instanceMethod yX4_thereIn, Cond.selects RX4 yX4_thereIn yX4_thereIn, Cond.code yX4_thereIn cX4_thereIn 3 (some .int), Cond.methodLink RX4 172 yX3_copyFrom, Cond.methodLink RL 76 yX5_thereIn, Cond.instanceMethod yX5_thereIn, Cond.selects RX5 yX5_thereIn yX5_thereIn, Cond.code yX5_thereIn cX5_thereIn 3 (some .int)]
def wsL_law_r24 : List Cond := [Cond.methodLink RX5 134 yX5_copies, Cond.static yX5_copies, Cond.code yX5_copies cX5_copies 3 none, Cond.methodLink RL 77 yX4_waits, Cond.instanceMethod yX4_waits, Cond.selects RX4 yX4_waits yX4_waits, Cond.code yX4_waits cX4_waits 7 (some .int), Cond.methodLink RX4 175 yX0_waitOf, Cond.instanceMethod yX0_waitOf, Cond.selects RX0 yX0_waitOf yX0_waitOf, Cond.code yX0_waitOf cX0_waitOf 4 (some .int), Cond.methodLink RL 80 yX5_waits, Cond.instanceMethod yX5_waits, Cond.selects RX5 yX5_waits yX5_waits, Cond.code yX5_waits cX5_waits 7 (some .int), Cond.methodLink RX5 138 yX5_waited, Cond.instanceMethod yX5_waited, Cond.selects RX5 yX5_waited yX5_waited, Cond.code yX5_waited cX5_waited 2 (some .int), Cond.methodLink RL 81 yX4_worstCar, Cond.instanceMethod yX4_worstCar, Cond.selects RX4 yX4_worstCar yX4_worstCar, Cond.code yX4_worstCar cX4_worstCar 6 (some .int), Cond.methodLink RX4 178 yX4_allThereInWithout]
def wsL_law_r25 : List Cond := [Cond.instanceMethod yX4_allThereInWithout, Cond.selects RX4 yX4_allThereInWithout yX4_allThereInWithout, Cond.code yX4_allThereInWithout cX4_allThereInWithout 3 (some .int), Cond.methodLink RL 84 yX5_worstCar, Cond.instanceMethod yX5_worstCar, Cond.selects RX5 yX5_worstCar yX5_worstCar, Cond.code yX5_worstCar cX5_worstCar 6 (some .int), Cond.methodLink RX5 141 yX5_allThere, Cond.instanceMethod yX5_allThere, Cond.selects RX5 yX5_allThere yX5_allThere, Cond.code yX5_allThere cX5_allThere 2 (some .int)]
def wsL_law : List Cond := (wsL_law_r1 ++ (wsL_law_r2 ++ (wsL_law_r3 ++ (wsL_law_r4 ++ (wsL_law_r5 ++ (wsL_law_r6 ++ (wsL_law_r7 ++ (wsL_law_r8 ++ (wsL_law_r9 ++ (wsL_law_r10 ++ (wsL_law_r11 ++ (wsL_law_r12 ++ (wsL_law_r13 ++ (wsL_law_r14 ++ (wsL_law_r15 ++ (wsL_law_r16 ++ (wsL_law_r17 ++ (wsL_law_r18 ++ (wsL_law_r19 ++ (wsL_law_r20 ++ (wsL_law_r21 ++ (wsL_law_r22 ++ (wsL_law_r23 ++ (wsL_law_r24 ++ wsL_law_r25)))))))))))))))))))))))) ++ wsX40 ++ wsX50 ++ wsX30 ++ wsX20 ++ wsX10 ++ wsX00 ++ ([] : List Cond)
set_option maxRecDepth 20000 in
theorem inlX0 : ∀ w ∈ wsX00, w ∈ wsL_law := fun _ h => List.mem_append_left _ (List.mem_append_right _ h)
theorem inlX1 : ∀ w ∈ wsX10, w ∈ wsL_law := fun _ h => List.mem_append_left _ (List.mem_append_left _ (List.mem_append_right _ h))
theorem inlX2 : ∀ w ∈ wsX20, w ∈ wsL_law := fun _ h => List.mem_append_left _ (List.mem_append_left _ (List.mem_append_left _ (List.mem_append_right _ h)))
theorem inlX3 : ∀ w ∈ wsX30, w ∈ wsL_law := fun _ h => List.mem_append_left _ (List.mem_append_left _ (List.mem_append_left _ (List.mem_append_left _ (List.mem_append_right _ h))))
theorem inlX4 : ∀ w ∈ wsX40, w ∈ wsL_law := fun _ h => List.mem_append_left _ (List.mem_append_left _ (List.mem_append_left _ (List.mem_append_left _ (List.mem_append_left _ (List.mem_append_left _ (List.mem_append_right _ h))))))
theorem inlX5 : ∀ w ∈ wsX50, w ∈ wsL_law := fun _ h => List.mem_append_left _ (List.mem_append_left _ (List.mem_append_left _ (List.mem_append_left _ (List.mem_append_left _ (List.mem_append_right _ h)))))
theorem inJ6 : ∀ w ∈ wsJ60, w ∈ lw_tbl := by decide +kernel
theorem inJ9 : ∀ w ∈ wsJ90, w ∈ lw_tbl := by decide +kernel
theorem inJ10 : ∀ w ∈ wsJ100, w ∈ lw_tbl := by decide +kernel
abbrev vwCl : List vw_C := [(RX0, TX0, 9), (RX1, TX1, 8), (RX2, TX2, 3), (RX3, TX3, 4), (RX4, TX4, 3), (RX5, TX5, 5)]
end
section
theorem dX0_init_0 : decode cX0_init 0 = .ok (.aload_n 0, 1) := by decide +kernel
theorem dX0_init_1 : decode cX0_init 1 = .ok (.invokespecial 3, 3) := by decide +kernel
theorem dX0_init_4 : decode cX0_init 4 = .ok (.aload_n 0, 1) := by decide +kernel
theorem dX0_init_5 : decode cX0_init 5 = .ok (.bipush 40, 2) := by decide +kernel
theorem dX0_init_7 : decode cX0_init 7 = .ok (.newarray .int, 2) := by decide +kernel
theorem dX0_init_9 : decode cX0_init 9 = .ok (.putfield 9, 3) := by decide +kernel
theorem dX0_init_12 : decode cX0_init 12 = .ok (.aload_n 0, 1) := by decide +kernel
theorem dX0_init_13 : decode cX0_init 13 = .ok (.bipush 40, 2) := by decide +kernel
theorem dX0_init_15 : decode cX0_init 15 = .ok (.newarray .int, 2) := by decide +kernel
theorem dX0_init_17 : decode cX0_init 17 = .ok (.putfield 15, 3) := by decide +kernel
theorem dX0_init_20 : decode cX0_init 20 = .ok (.aload_n 0, 1) := by decide +kernel
theorem dX0_init_21 : decode cX0_init 21 = .ok (.bipush 40, 2) := by decide +kernel
theorem dX0_init_23 : decode cX0_init 23 = .ok (.newarray .int, 2) := by decide +kernel
theorem dX0_init_25 : decode cX0_init 25 = .ok (.putfield 18, 3) := by decide +kernel
theorem dX0_init_28 : decode cX0_init 28 = .ok (.aload_n 0, 1) := by decide +kernel
theorem dX0_init_29 : decode cX0_init 29 = .ok (.bipush 40, 2) := by decide +kernel
theorem dX0_init_31 : decode cX0_init 31 = .ok (.newarray .int, 2) := by decide +kernel
theorem dX0_init_33 : decode cX0_init 33 = .ok (.putfield 21, 3) := by decide +kernel
theorem dX0_init_36 : decode cX0_init 36 = .ok (.aload_n 0, 1) := by decide +kernel
theorem dX0_init_37 : decode cX0_init 37 = .ok (.bipush 40, 2) := by decide +kernel
theorem dX0_init_39 : decode cX0_init 39 = .ok (.newarray .int, 2) := by decide +kernel
theorem dX0_init_41 : decode cX0_init 41 = .ok (.putfield 24, 3) := by decide +kernel
theorem dX0_init_44 : decode cX0_init 44 = .ok (.aload_n 0, 1) := by decide +kernel
theorem dX0_init_45 : decode cX0_init 45 = .ok (.bipush 40, 2) := by decide +kernel
theorem dX0_init_47 : decode cX0_init 47 = .ok (.newarray .int, 2) := by decide +kernel
theorem dX0_init_49 : decode cX0_init 49 = .ok (.putfield 27, 3) := by decide +kernel
theorem dX0_init_52 : decode cX0_init 52 = .ok (.aload_n 0, 1) := by decide +kernel
theorem dX0_init_53 : decode cX0_init 53 = .ok (.bipush 40, 2) := by decide +kernel
theorem dX0_init_55 : decode cX0_init 55 = .ok (.newarray .int, 2) := by decide +kernel
theorem dX0_init_57 : decode cX0_init 57 = .ok (.putfield 30, 3) := by decide +kernel
theorem dX0_init_60 : decode cX0_init 60 = .ok (.aload_n 0, 1) := by decide +kernel
theorem dX0_init_61 : decode cX0_init 61 = .ok (.bipush 40, 2) := by decide +kernel
theorem dX0_init_63 : decode cX0_init 63 = .ok (.newarray .int, 2) := by decide +kernel
theorem dX0_init_65 : decode cX0_init 65 = .ok (.putfield 33, 3) := by decide +kernel
theorem dX0_init_68 : decode cX0_init 68 = .ok (.return_, 1) := by decide +kernel
theorem dX0_copyFrom_0 : decode cX0_copyFrom 0 = .ok (.aload_n 0, 1) := by decide +kernel
theorem dX0_copyFrom_1 : decode cX0_copyFrom 1 = .ok (.aload_n 1, 1) := by decide +kernel
theorem dX0_copyFrom_2 : decode cX0_copyFrom 2 = .ok (.getfield 36, 3) := by decide +kernel
theorem dX0_copyFrom_5 : decode cX0_copyFrom 5 = .ok (.putfield 36, 3) := by decide +kernel
theorem dX0_copyFrom_8 : decode cX0_copyFrom 8 = .ok (.aload_n 1, 1) := by decide +kernel
theorem dX0_copyFrom_9 : decode cX0_copyFrom 9 = .ok (.getfield 9, 3) := by decide +kernel
theorem dX0_copyFrom_12 : decode cX0_copyFrom 12 = .ok (.iconst 0, 1) := by decide +kernel
theorem dX0_copyFrom_13 : decode cX0_copyFrom 13 = .ok (.aload_n 0, 1) := by decide +kernel
theorem dX0_copyFrom_14 : decode cX0_copyFrom 14 = .ok (.getfield 9, 3) := by decide +kernel
theorem dX0_copyFrom_17 : decode cX0_copyFrom 17 = .ok (.iconst 0, 1) := by decide +kernel
theorem dX0_copyFrom_18 : decode cX0_copyFrom 18 = .ok (.bipush 40, 2) := by decide +kernel
theorem dX0_copyFrom_20 : decode cX0_copyFrom 20 = .ok (.invokestatic 40, 3) := by decide +kernel
theorem dX0_copyFrom_23 : decode cX0_copyFrom 23 = .ok (.aload_n 1, 1) := by decide +kernel
theorem dX0_copyFrom_24 : decode cX0_copyFrom 24 = .ok (.getfield 15, 3) := by decide +kernel
theorem dX0_copyFrom_27 : decode cX0_copyFrom 27 = .ok (.iconst 0, 1) := by decide +kernel
theorem dX0_copyFrom_28 : decode cX0_copyFrom 28 = .ok (.aload_n 0, 1) := by decide +kernel
theorem dX0_copyFrom_29 : decode cX0_copyFrom 29 = .ok (.getfield 15, 3) := by decide +kernel
theorem dX0_copyFrom_32 : decode cX0_copyFrom 32 = .ok (.iconst 0, 1) := by decide +kernel
theorem dX0_copyFrom_33 : decode cX0_copyFrom 33 = .ok (.bipush 40, 2) := by decide +kernel
theorem dX0_copyFrom_35 : decode cX0_copyFrom 35 = .ok (.invokestatic 40, 3) := by decide +kernel
theorem dX0_copyFrom_38 : decode cX0_copyFrom 38 = .ok (.aload_n 1, 1) := by decide +kernel
theorem dX0_copyFrom_39 : decode cX0_copyFrom 39 = .ok (.getfield 18, 3) := by decide +kernel
theorem dX0_copyFrom_42 : decode cX0_copyFrom 42 = .ok (.iconst 0, 1) := by decide +kernel
theorem dX0_copyFrom_43 : decode cX0_copyFrom 43 = .ok (.aload_n 0, 1) := by decide +kernel
theorem dX0_copyFrom_44 : decode cX0_copyFrom 44 = .ok (.getfield 18, 3) := by decide +kernel
theorem dX0_copyFrom_47 : decode cX0_copyFrom 47 = .ok (.iconst 0, 1) := by decide +kernel
theorem dX0_copyFrom_48 : decode cX0_copyFrom 48 = .ok (.bipush 40, 2) := by decide +kernel
theorem dX0_copyFrom_50 : decode cX0_copyFrom 50 = .ok (.invokestatic 40, 3) := by decide +kernel
theorem dX0_copyFrom_53 : decode cX0_copyFrom 53 = .ok (.aload_n 1, 1) := by decide +kernel
theorem dX0_copyFrom_54 : decode cX0_copyFrom 54 = .ok (.getfield 21, 3) := by decide +kernel
theorem dX0_copyFrom_57 : decode cX0_copyFrom 57 = .ok (.iconst 0, 1) := by decide +kernel
theorem dX0_copyFrom_58 : decode cX0_copyFrom 58 = .ok (.aload_n 0, 1) := by decide +kernel
theorem dX0_copyFrom_59 : decode cX0_copyFrom 59 = .ok (.getfield 21, 3) := by decide +kernel
theorem dX0_copyFrom_62 : decode cX0_copyFrom 62 = .ok (.iconst 0, 1) := by decide +kernel
theorem dX0_copyFrom_63 : decode cX0_copyFrom 63 = .ok (.bipush 40, 2) := by decide +kernel
theorem dX0_copyFrom_65 : decode cX0_copyFrom 65 = .ok (.invokestatic 40, 3) := by decide +kernel
theorem dX0_copyFrom_68 : decode cX0_copyFrom 68 = .ok (.aload_n 1, 1) := by decide +kernel
theorem dX0_copyFrom_69 : decode cX0_copyFrom 69 = .ok (.getfield 24, 3) := by decide +kernel
theorem dX0_copyFrom_72 : decode cX0_copyFrom 72 = .ok (.iconst 0, 1) := by decide +kernel
theorem dX0_copyFrom_73 : decode cX0_copyFrom 73 = .ok (.aload_n 0, 1) := by decide +kernel
theorem dX0_copyFrom_74 : decode cX0_copyFrom 74 = .ok (.getfield 24, 3) := by decide +kernel
theorem dX0_copyFrom_77 : decode cX0_copyFrom 77 = .ok (.iconst 0, 1) := by decide +kernel
theorem dX0_copyFrom_78 : decode cX0_copyFrom 78 = .ok (.bipush 40, 2) := by decide +kernel
theorem dX0_copyFrom_80 : decode cX0_copyFrom 80 = .ok (.invokestatic 40, 3) := by decide +kernel
theorem dX0_copyFrom_83 : decode cX0_copyFrom 83 = .ok (.aload_n 1, 1) := by decide +kernel
theorem dX0_copyFrom_84 : decode cX0_copyFrom 84 = .ok (.getfield 27, 3) := by decide +kernel
theorem dX0_copyFrom_87 : decode cX0_copyFrom 87 = .ok (.iconst 0, 1) := by decide +kernel
theorem dX0_copyFrom_88 : decode cX0_copyFrom 88 = .ok (.aload_n 0, 1) := by decide +kernel
theorem dX0_copyFrom_89 : decode cX0_copyFrom 89 = .ok (.getfield 27, 3) := by decide +kernel
theorem dX0_copyFrom_92 : decode cX0_copyFrom 92 = .ok (.iconst 0, 1) := by decide +kernel
theorem dX0_copyFrom_93 : decode cX0_copyFrom 93 = .ok (.bipush 40, 2) := by decide +kernel
theorem dX0_copyFrom_95 : decode cX0_copyFrom 95 = .ok (.invokestatic 40, 3) := by decide +kernel
theorem dX0_copyFrom_98 : decode cX0_copyFrom 98 = .ok (.aload_n 1, 1) := by decide +kernel
theorem dX0_copyFrom_99 : decode cX0_copyFrom 99 = .ok (.getfield 30, 3) := by decide +kernel
theorem dX0_copyFrom_102 : decode cX0_copyFrom 102 = .ok (.iconst 0, 1) := by decide +kernel
theorem dX0_copyFrom_103 : decode cX0_copyFrom 103 = .ok (.aload_n 0, 1) := by decide +kernel
theorem dX0_copyFrom_104 : decode cX0_copyFrom 104 = .ok (.getfield 30, 3) := by decide +kernel
theorem dX0_copyFrom_107 : decode cX0_copyFrom 107 = .ok (.iconst 0, 1) := by decide +kernel
theorem dX0_copyFrom_108 : decode cX0_copyFrom 108 = .ok (.bipush 40, 2) := by decide +kernel
theorem dX0_copyFrom_110 : decode cX0_copyFrom 110 = .ok (.invokestatic 40, 3) := by decide +kernel
theorem dX0_copyFrom_113 : decode cX0_copyFrom 113 = .ok (.aload_n 1, 1) := by decide +kernel
theorem dX0_copyFrom_114 : decode cX0_copyFrom 114 = .ok (.getfield 33, 3) := by decide +kernel
theorem dX0_copyFrom_117 : decode cX0_copyFrom 117 = .ok (.iconst 0, 1) := by decide +kernel
theorem dX0_copyFrom_118 : decode cX0_copyFrom 118 = .ok (.aload_n 0, 1) := by decide +kernel
theorem dX0_copyFrom_119 : decode cX0_copyFrom 119 = .ok (.getfield 33, 3) := by decide +kernel
theorem dX0_copyFrom_122 : decode cX0_copyFrom 122 = .ok (.iconst 0, 1) := by decide +kernel
theorem dX0_copyFrom_123 : decode cX0_copyFrom 123 = .ok (.bipush 40, 2) := by decide +kernel
theorem dX0_copyFrom_125 : decode cX0_copyFrom 125 = .ok (.invokestatic 40, 3) := by decide +kernel
theorem dX0_copyFrom_128 : decode cX0_copyFrom 128 = .ok (.return_, 1) := by decide +kernel
theorem dX0_has_0 : decode cX0_has 0 = .ok (.iload_n 1, 1) := by decide +kernel
theorem dX0_has_1 : decode cX0_has 1 = .ok (.ifCond .lt 15, 3) := by decide +kernel
theorem dX0_has_4 : decode cX0_has 4 = .ok (.iload_n 1, 1) := by decide +kernel
theorem dX0_has_5 : decode cX0_has 5 = .ok (.aload_n 0, 1) := by decide +kernel
theorem dX0_has_6 : decode cX0_has 6 = .ok (.getfield 36, 3) := by decide +kernel
theorem dX0_has_9 : decode cX0_has 9 = .ok (.if_icmp .ge 7, 3) := by decide +kernel
theorem dX0_has_12 : decode cX0_has 12 = .ok (.iconst 1, 1) := by decide +kernel
theorem dX0_has_13 : decode cX0_has 13 = .ok (.goto 4, 3) := by decide +kernel
theorem dX0_has_16 : decode cX0_has 16 = .ok (.iconst 0, 1) := by decide +kernel
theorem dX0_has_17 : decode cX0_has 17 = .ok (.ireturn, 1) := by decide +kernel
theorem dX0_add_0 : decode cX0_add 0 = .ok (.aload_n 0, 1) := by decide +kernel
theorem dX0_add_1 : decode cX0_add 1 = .ok (.getfield 36, 3) := by decide +kernel
theorem dX0_add_4 : decode cX0_add 4 = .ok (.istore 4, 2) := by decide +kernel
theorem dX0_add_6 : decode cX0_add 6 = .ok (.iload 4, 2) := by decide +kernel
theorem dX0_add_8 : decode cX0_add 8 = .ok (.bipush 40, 2) := by decide +kernel
theorem dX0_add_10 : decode cX0_add 10 = .ok (.if_icmp .lt 6, 3) := by decide +kernel
theorem dX0_add_13 : decode cX0_add 13 = .ok (.bipush (-9), 2) := by decide +kernel
theorem dX0_add_15 : decode cX0_add 15 = .ok (.ireturn, 1) := by decide +kernel
theorem dX0_add_16 : decode cX0_add 16 = .ok (.aload_n 0, 1) := by decide +kernel
theorem dX0_add_17 : decode cX0_add 17 = .ok (.getfield 9, 3) := by decide +kernel
theorem dX0_add_20 : decode cX0_add 20 = .ok (.iload 4, 2) := by decide +kernel
theorem dX0_add_22 : decode cX0_add 22 = .ok (.iload_n 1, 1) := by decide +kernel
theorem dX0_add_23 : decode cX0_add 23 = .ok (.iastore, 1) := by decide +kernel
theorem dX0_add_24 : decode cX0_add 24 = .ok (.aload_n 0, 1) := by decide +kernel
theorem dX0_add_25 : decode cX0_add 25 = .ok (.getfield 15, 3) := by decide +kernel
theorem dX0_add_28 : decode cX0_add 28 = .ok (.iload 4, 2) := by decide +kernel
theorem dX0_add_30 : decode cX0_add 30 = .ok (.iload_n 2, 1) := by decide +kernel
theorem dX0_add_31 : decode cX0_add 31 = .ok (.iastore, 1) := by decide +kernel
theorem dX0_add_32 : decode cX0_add 32 = .ok (.aload_n 0, 1) := by decide +kernel
theorem dX0_add_33 : decode cX0_add 33 = .ok (.getfield 18, 3) := by decide +kernel
theorem dX0_add_36 : decode cX0_add 36 = .ok (.iload 4, 2) := by decide +kernel
theorem dX0_add_38 : decode cX0_add 38 = .ok (.iconst 0, 1) := by decide +kernel
theorem dX0_add_39 : decode cX0_add 39 = .ok (.iastore, 1) := by decide +kernel
theorem dX0_add_40 : decode cX0_add 40 = .ok (.aload_n 0, 1) := by decide +kernel
theorem dX0_add_41 : decode cX0_add 41 = .ok (.getfield 21, 3) := by decide +kernel
theorem dX0_add_44 : decode cX0_add 44 = .ok (.iload 4, 2) := by decide +kernel
theorem dX0_add_46 : decode cX0_add 46 = .ok (.bipush (-9), 2) := by decide +kernel
theorem dX0_add_48 : decode cX0_add 48 = .ok (.iastore, 1) := by decide +kernel
theorem dX0_add_49 : decode cX0_add 49 = .ok (.aload_n 0, 1) := by decide +kernel
theorem dX0_add_50 : decode cX0_add 50 = .ok (.getfield 24, 3) := by decide +kernel
theorem dX0_add_53 : decode cX0_add 53 = .ok (.iload 4, 2) := by decide +kernel
theorem dX0_add_55 : decode cX0_add 55 = .ok (.iload_n 3, 1) := by decide +kernel
theorem dX0_add_56 : decode cX0_add 56 = .ok (.iastore, 1) := by decide +kernel
theorem dX0_add_57 : decode cX0_add 57 = .ok (.aload_n 0, 1) := by decide +kernel
theorem dX0_add_58 : decode cX0_add 58 = .ok (.getfield 27, 3) := by decide +kernel
theorem dX0_add_61 : decode cX0_add 61 = .ok (.iload 4, 2) := by decide +kernel
theorem dX0_add_63 : decode cX0_add 63 = .ok (.bipush (-9), 2) := by decide +kernel
theorem dX0_add_65 : decode cX0_add 65 = .ok (.iastore, 1) := by decide +kernel
theorem dX0_add_66 : decode cX0_add 66 = .ok (.aload_n 0, 1) := by decide +kernel
theorem dX0_add_67 : decode cX0_add 67 = .ok (.getfield 30, 3) := by decide +kernel
theorem dX0_add_70 : decode cX0_add 70 = .ok (.iload 4, 2) := by decide +kernel
theorem dX0_add_72 : decode cX0_add 72 = .ok (.bipush (-9), 2) := by decide +kernel
theorem dX0_add_74 : decode cX0_add 74 = .ok (.iastore, 1) := by decide +kernel
theorem dX0_add_75 : decode cX0_add 75 = .ok (.aload_n 0, 1) := by decide +kernel
theorem dX0_add_76 : decode cX0_add 76 = .ok (.getfield 33, 3) := by decide +kernel
theorem dX0_add_79 : decode cX0_add 79 = .ok (.iload 4, 2) := by decide +kernel
theorem dX0_add_81 : decode cX0_add 81 = .ok (.iconst 0, 1) := by decide +kernel
theorem dX0_add_82 : decode cX0_add 82 = .ok (.iastore, 1) := by decide +kernel
theorem dX0_add_83 : decode cX0_add 83 = .ok (.aload_n 0, 1) := by decide +kernel
theorem dX0_add_84 : decode cX0_add 84 = .ok (.iload 4, 2) := by decide +kernel
theorem dX0_add_86 : decode cX0_add 86 = .ok (.iconst 1, 1) := by decide +kernel
theorem dX0_add_87 : decode cX0_add 87 = .ok (.iadd, 1) := by decide +kernel
theorem dX0_add_88 : decode cX0_add 88 = .ok (.putfield 36, 3) := by decide +kernel
theorem dX0_add_91 : decode cX0_add 91 = .ok (.iload 4, 2) := by decide +kernel
theorem dX0_add_93 : decode cX0_add 93 = .ok (.ireturn, 1) := by decide +kernel
set_option maxRecDepth 20000 in
theorem ggX0_give_X0_has : GoodIn wsX0_give wsX0_has := goodIn_r _ [8, 9, 10, 11, 12, 13, 14, 15, 16, 17, 18] (by decide +kernel) (by decide +kernel)
set_option maxRecDepth 20000 in
theorem gX0_give_X0_has : GoodIn wsX0_give (wsV RX0 46 RX0 yX0_has wsX0_has) := goodIn_app (goodIn_of _ (by decide +kernel)) ggX0_give_X0_has
theorem dX0_give_0 : decode cX0_give 0 = .ok (.iload_n 2, 1) := by decide +kernel
theorem dX0_give_1 : decode cX0_give 1 = .ok (.bipush (-9), 2) := by decide +kernel
theorem dX0_give_3 : decode cX0_give 3 = .ok (.if_icmp .eq 11, 3) := by decide +kernel
theorem dX0_give_6 : decode cX0_give 6 = .ok (.aload_n 0, 1) := by decide +kernel
theorem dX0_give_7 : decode cX0_give 7 = .ok (.iload_n 1, 1) := by decide +kernel
theorem dX0_give_8 : decode cX0_give 8 = .ok (.invokevirtual 46, 3) := by decide +kernel
theorem dX0_give_11 : decode cX0_give 11 = .ok (.ifCond .ne 4, 3) := by decide +kernel
theorem dX0_give_14 : decode cX0_give 14 = .ok (.return_, 1) := by decide +kernel
theorem dX0_give_15 : decode cX0_give 15 = .ok (.aload_n 0, 1) := by decide +kernel
theorem dX0_give_16 : decode cX0_give 16 = .ok (.getfield 18, 3) := by decide +kernel
theorem dX0_give_19 : decode cX0_give 19 = .ok (.iload_n 1, 1) := by decide +kernel
theorem dX0_give_20 : decode cX0_give 20 = .ok (.iconst 1, 1) := by decide +kernel
theorem dX0_give_21 : decode cX0_give 21 = .ok (.iastore, 1) := by decide +kernel
theorem dX0_give_22 : decode cX0_give 22 = .ok (.aload_n 0, 1) := by decide +kernel
theorem dX0_give_23 : decode cX0_give 23 = .ok (.getfield 21, 3) := by decide +kernel
theorem dX0_give_26 : decode cX0_give 26 = .ok (.iload_n 1, 1) := by decide +kernel
theorem dX0_give_27 : decode cX0_give 27 = .ok (.iload_n 2, 1) := by decide +kernel
theorem dX0_give_28 : decode cX0_give 28 = .ok (.iastore, 1) := by decide +kernel
theorem dX0_give_29 : decode cX0_give 29 = .ok (.aload_n 0, 1) := by decide +kernel
theorem dX0_give_30 : decode cX0_give 30 = .ok (.getfield 33, 3) := by decide +kernel
theorem dX0_give_33 : decode cX0_give 33 = .ok (.iload_n 1, 1) := by decide +kernel
theorem dX0_give_34 : decode cX0_give 34 = .ok (.dup2, 1) := by decide +kernel
theorem dX0_give_35 : decode cX0_give 35 = .ok (.iaload, 1) := by decide +kernel
theorem dX0_give_36 : decode cX0_give 36 = .ok (.iconst 1, 1) := by decide +kernel
theorem dX0_give_37 : decode cX0_give 37 = .ok (.iadd, 1) := by decide +kernel
theorem dX0_give_38 : decode cX0_give 38 = .ok (.iastore, 1) := by decide +kernel
theorem dX0_give_39 : decode cX0_give 39 = .ok (.return_, 1) := by decide +kernel
theorem dX0_rides_0 : decode cX0_rides 0 = .ok (.aload_n 0, 1) := by decide +kernel
theorem dX0_rides_1 : decode cX0_rides 1 = .ok (.getfield 18, 3) := by decide +kernel
theorem dX0_rides_4 : decode cX0_rides 4 = .ok (.iload_n 1, 1) := by decide +kernel
theorem dX0_rides_5 : decode cX0_rides 5 = .ok (.iaload, 1) := by decide +kernel
theorem dX0_rides_6 : decode cX0_rides 6 = .ok (.iconst 2, 1) := by decide +kernel
theorem dX0_rides_7 : decode cX0_rides 7 = .ok (.if_icmp .ne 17, 3) := by decide +kernel
theorem dX0_rides_10 : decode cX0_rides 10 = .ok (.aload_n 0, 1) := by decide +kernel
theorem dX0_rides_11 : decode cX0_rides 11 = .ok (.getfield 21, 3) := by decide +kernel
theorem dX0_rides_14 : decode cX0_rides 14 = .ok (.iload_n 1, 1) := by decide +kernel
theorem dX0_rides_15 : decode cX0_rides 15 = .ok (.iaload, 1) := by decide +kernel
theorem dX0_rides_16 : decode cX0_rides 16 = .ok (.iload_n 2, 1) := by decide +kernel
theorem dX0_rides_17 : decode cX0_rides 17 = .ok (.if_icmp .ne 7, 3) := by decide +kernel
theorem dX0_rides_20 : decode cX0_rides 20 = .ok (.iconst 1, 1) := by decide +kernel
theorem dX0_rides_21 : decode cX0_rides 21 = .ok (.goto 4, 3) := by decide +kernel
theorem dX0_rides_24 : decode cX0_rides 24 = .ok (.iconst 0, 1) := by decide +kernel
theorem dX0_rides_25 : decode cX0_rides 25 = .ok (.ireturn, 1) := by decide +kernel
theorem dX0_waitsFor_0 : decode cX0_waitsFor 0 = .ok (.aload_n 0, 1) := by decide +kernel
theorem dX0_waitsFor_1 : decode cX0_waitsFor 1 = .ok (.getfield 18, 3) := by decide +kernel
theorem dX0_waitsFor_4 : decode cX0_waitsFor 4 = .ok (.iload_n 1, 1) := by decide +kernel
theorem dX0_waitsFor_5 : decode cX0_waitsFor 5 = .ok (.iaload, 1) := by decide +kernel
theorem dX0_waitsFor_6 : decode cX0_waitsFor 6 = .ok (.iconst 1, 1) := by decide +kernel
theorem dX0_waitsFor_7 : decode cX0_waitsFor 7 = .ok (.if_icmp .ne 17, 3) := by decide +kernel
theorem dX0_waitsFor_10 : decode cX0_waitsFor 10 = .ok (.aload_n 0, 1) := by decide +kernel
theorem dX0_waitsFor_11 : decode cX0_waitsFor 11 = .ok (.getfield 21, 3) := by decide +kernel
theorem dX0_waitsFor_14 : decode cX0_waitsFor 14 = .ok (.iload_n 1, 1) := by decide +kernel
theorem dX0_waitsFor_15 : decode cX0_waitsFor 15 = .ok (.iaload, 1) := by decide +kernel
theorem dX0_waitsFor_16 : decode cX0_waitsFor 16 = .ok (.iload_n 2, 1) := by decide +kernel
theorem dX0_waitsFor_17 : decode cX0_waitsFor 17 = .ok (.if_icmp .ne 7, 3) := by decide +kernel
theorem dX0_waitsFor_20 : decode cX0_waitsFor 20 = .ok (.iconst 1, 1) := by decide +kernel
theorem dX0_waitsFor_21 : decode cX0_waitsFor 21 = .ok (.goto 4, 3) := by decide +kernel
theorem dX0_waitsFor_24 : decode cX0_waitsFor 24 = .ok (.iconst 0, 1) := by decide +kernel
theorem dX0_waitsFor_25 : decode cX0_waitsFor 25 = .ok (.ireturn, 1) := by decide +kernel
theorem dX0_numberIn_0 : decode cX0_numberIn 0 = .ok (.iconst 0, 1) := by decide +kernel
theorem dX0_numberIn_1 : decode cX0_numberIn 1 = .ok (.istore_n 2, 1) := by decide +kernel
theorem dX0_numberIn_2 : decode cX0_numberIn 2 = .ok (.iconst 0, 1) := by decide +kernel
theorem dX0_numberIn_3 : decode cX0_numberIn 3 = .ok (.istore_n 3, 1) := by decide +kernel
theorem dX0_numberIn_4 : decode cX0_numberIn 4 = .ok (.iload_n 3, 1) := by decide +kernel
theorem dX0_numberIn_5 : decode cX0_numberIn 5 = .ok (.aload_n 0, 1) := by decide +kernel
theorem dX0_numberIn_6 : decode cX0_numberIn 6 = .ok (.getfield 36, 3) := by decide +kernel
theorem dX0_numberIn_9 : decode cX0_numberIn 9 = .ok (.if_icmp .ge 22, 3) := by decide +kernel
theorem dX0_numberIn_12 : decode cX0_numberIn 12 = .ok (.aload_n 0, 1) := by decide +kernel
theorem dX0_numberIn_13 : decode cX0_numberIn 13 = .ok (.getfield 18, 3) := by decide +kernel
theorem dX0_numberIn_16 : decode cX0_numberIn 16 = .ok (.iload_n 3, 1) := by decide +kernel
theorem dX0_numberIn_17 : decode cX0_numberIn 17 = .ok (.iaload, 1) := by decide +kernel
theorem dX0_numberIn_18 : decode cX0_numberIn 18 = .ok (.iload_n 1, 1) := by decide +kernel
theorem dX0_numberIn_19 : decode cX0_numberIn 19 = .ok (.if_icmp .ne 6, 3) := by decide +kernel
theorem dX0_numberIn_22 : decode cX0_numberIn 22 = .ok (.iinc 2 1, 3) := by decide +kernel
theorem dX0_numberIn_25 : decode cX0_numberIn 25 = .ok (.iinc 3 1, 3) := by decide +kernel
theorem dX0_numberIn_28 : decode cX0_numberIn 28 = .ok (.goto (-24), 3) := by decide +kernel
theorem dX0_numberIn_31 : decode cX0_numberIn 31 = .ok (.iload_n 2, 1) := by decide +kernel
theorem dX0_numberIn_32 : decode cX0_numberIn 32 = .ok (.ireturn, 1) := by decide +kernel
theorem dX0_numberOf_0 : decode cX0_numberOf 0 = .ok (.iconst 0, 1) := by decide +kernel
theorem dX0_numberOf_1 : decode cX0_numberOf 1 = .ok (.istore_n 3, 1) := by decide +kernel
theorem dX0_numberOf_2 : decode cX0_numberOf 2 = .ok (.iconst 0, 1) := by decide +kernel
theorem dX0_numberOf_3 : decode cX0_numberOf 3 = .ok (.istore 4, 2) := by decide +kernel
theorem dX0_numberOf_5 : decode cX0_numberOf 5 = .ok (.iload 4, 2) := by decide +kernel
theorem dX0_numberOf_7 : decode cX0_numberOf 7 = .ok (.aload_n 0, 1) := by decide +kernel
theorem dX0_numberOf_8 : decode cX0_numberOf 8 = .ok (.getfield 36, 3) := by decide +kernel
theorem dX0_numberOf_11 : decode cX0_numberOf 11 = .ok (.if_icmp .ge 34, 3) := by decide +kernel
theorem dX0_numberOf_14 : decode cX0_numberOf 14 = .ok (.aload_n 0, 1) := by decide +kernel
theorem dX0_numberOf_15 : decode cX0_numberOf 15 = .ok (.getfield 18, 3) := by decide +kernel
theorem dX0_numberOf_18 : decode cX0_numberOf 18 = .ok (.iload 4, 2) := by decide +kernel
theorem dX0_numberOf_20 : decode cX0_numberOf 20 = .ok (.iaload, 1) := by decide +kernel
theorem dX0_numberOf_21 : decode cX0_numberOf 21 = .ok (.iload_n 2, 1) := by decide +kernel
theorem dX0_numberOf_22 : decode cX0_numberOf 22 = .ok (.if_icmp .ne 17, 3) := by decide +kernel
theorem dX0_numberOf_25 : decode cX0_numberOf 25 = .ok (.aload_n 0, 1) := by decide +kernel
theorem dX0_numberOf_26 : decode cX0_numberOf 26 = .ok (.getfield 21, 3) := by decide +kernel
theorem dX0_numberOf_29 : decode cX0_numberOf 29 = .ok (.iload 4, 2) := by decide +kernel
theorem dX0_numberOf_31 : decode cX0_numberOf 31 = .ok (.iaload, 1) := by decide +kernel
theorem dX0_numberOf_32 : decode cX0_numberOf 32 = .ok (.iload_n 1, 1) := by decide +kernel
theorem dX0_numberOf_33 : decode cX0_numberOf 33 = .ok (.if_icmp .ne 6, 3) := by decide +kernel
theorem dX0_numberOf_36 : decode cX0_numberOf 36 = .ok (.iinc 3 1, 3) := by decide +kernel
theorem dX0_numberOf_39 : decode cX0_numberOf 39 = .ok (.iinc 4 1, 3) := by decide +kernel
theorem dX0_numberOf_42 : decode cX0_numberOf 42 = .ok (.goto (-37), 3) := by decide +kernel
theorem dX0_numberOf_45 : decode cX0_numberOf 45 = .ok (.iload_n 3, 1) := by decide +kernel
theorem dX0_numberOf_46 : decode cX0_numberOf 46 = .ok (.ireturn, 1) := by decide +kernel
set_option maxRecDepth 20000 in
theorem ggX0_numberWith_X0_numberOf : GoodIn wsX0_numberWith wsX0_numberOf := goodIn_r _ [5, 6, 7, 8, 9, 10, 11, 12, 13, 14, 15, 16, 17] (by decide +kernel) (by decide +kernel)
set_option maxRecDepth 20000 in
theorem gX0_numberWith_X0_numberOf : GoodIn wsX0_numberWith (wsV RX0 50 RX0 yX0_numberOf wsX0_numberOf) := goodIn_app (goodIn_of _ (by decide +kernel)) ggX0_numberWith_X0_numberOf
theorem dX0_numberWith_0 : decode cX0_numberWith 0 = .ok (.aload_n 0, 1) := by decide +kernel
theorem dX0_numberWith_1 : decode cX0_numberWith 1 = .ok (.iload_n 1, 1) := by decide +kernel
theorem dX0_numberWith_2 : decode cX0_numberWith 2 = .ok (.iconst 1, 1) := by decide +kernel
theorem dX0_numberWith_3 : decode cX0_numberWith 3 = .ok (.invokevirtual 50, 3) := by decide +kernel
theorem dX0_numberWith_6 : decode cX0_numberWith 6 = .ok (.aload_n 0, 1) := by decide +kernel
theorem dX0_numberWith_7 : decode cX0_numberWith 7 = .ok (.iload_n 1, 1) := by decide +kernel
theorem dX0_numberWith_8 : decode cX0_numberWith 8 = .ok (.iconst 2, 1) := by decide +kernel
theorem dX0_numberWith_9 : decode cX0_numberWith 9 = .ok (.invokevirtual 50, 3) := by decide +kernel
theorem dX0_numberWith_12 : decode cX0_numberWith 12 = .ok (.iadd, 1) := by decide +kernel
theorem dX0_numberWith_13 : decode cX0_numberWith 13 = .ok (.ireturn, 1) := by decide +kernel
set_option maxRecDepth 20000 in
theorem ggX0_stopsOf_X0_waitsFor : GoodIn wsX0_stopsOf wsX0_waitsFor := goodIn_r _ [8, 9, 10, 15, 16, 17, 18, 19, 20, 21, 22, 23] (by decide +kernel) (by decide +kernel)
set_option maxRecDepth 20000 in
theorem gX0_stopsOf_X0_waitsFor : GoodIn wsX0_stopsOf (wsV RX0 54 RX0 yX0_waitsFor wsX0_waitsFor) := goodIn_app (goodIn_of _ (by decide +kernel)) ggX0_stopsOf_X0_waitsFor
set_option maxRecDepth 20000 in
theorem ggX0_stopsOf_X0_rides : GoodIn wsX0_stopsOf wsX0_rides := goodIn_r _ [14, 9, 10, 15, 16, 17, 18, 19, 20, 21, 22, 23] (by decide +kernel) (by decide +kernel)
set_option maxRecDepth 20000 in
theorem gX0_stopsOf_X0_rides : GoodIn wsX0_stopsOf (wsV RX0 58 RX0 yX0_rides wsX0_rides) := goodIn_app (goodIn_of _ (by decide +kernel)) ggX0_stopsOf_X0_rides
theorem dX0_stopsOf_0 : decode cX0_stopsOf 0 = .ok (.iconst 0, 1) := by decide +kernel
theorem dX0_stopsOf_1 : decode cX0_stopsOf 1 = .ok (.istore_n 2, 1) := by decide +kernel
theorem dX0_stopsOf_2 : decode cX0_stopsOf 2 = .ok (.iconst 0, 1) := by decide +kernel
theorem dX0_stopsOf_3 : decode cX0_stopsOf 3 = .ok (.istore_n 3, 1) := by decide +kernel
theorem dX0_stopsOf_4 : decode cX0_stopsOf 4 = .ok (.iload_n 3, 1) := by decide +kernel
theorem dX0_stopsOf_5 : decode cX0_stopsOf 5 = .ok (.aload_n 0, 1) := by decide +kernel
theorem dX0_stopsOf_6 : decode cX0_stopsOf 6 = .ok (.getfield 36, 3) := by decide +kernel
theorem dX0_stopsOf_9 : decode cX0_stopsOf 9 = .ok (.if_icmp .ge 61, 3) := by decide +kernel
theorem dX0_stopsOf_12 : decode cX0_stopsOf 12 = .ok (.aload_n 0, 1) := by decide +kernel
theorem dX0_stopsOf_13 : decode cX0_stopsOf 13 = .ok (.iload_n 3, 1) := by decide +kernel
theorem dX0_stopsOf_14 : decode cX0_stopsOf 14 = .ok (.iload_n 1, 1) := by decide +kernel
theorem dX0_stopsOf_15 : decode cX0_stopsOf 15 = .ok (.invokevirtual 54, 3) := by decide +kernel
theorem dX0_stopsOf_18 : decode cX0_stopsOf 18 = .ok (.ifCond .eq 26, 3) := by decide +kernel
theorem dX0_stopsOf_21 : decode cX0_stopsOf 21 = .ok (.iload_n 2, 1) := by decide +kernel
theorem dX0_stopsOf_22 : decode cX0_stopsOf 22 = .ok (.iconst 1, 1) := by decide +kernel
theorem dX0_stopsOf_23 : decode cX0_stopsOf 23 = .ok (.aload_n 0, 1) := by decide +kernel
theorem dX0_stopsOf_24 : decode cX0_stopsOf 24 = .ok (.getfield 9, 3) := by decide +kernel
theorem dX0_stopsOf_27 : decode cX0_stopsOf 27 = .ok (.iload_n 3, 1) := by decide +kernel
theorem dX0_stopsOf_28 : decode cX0_stopsOf 28 = .ok (.iaload, 1) := by decide +kernel
theorem dX0_stopsOf_29 : decode cX0_stopsOf 29 = .ok (.ishl, 1) := by decide +kernel
theorem dX0_stopsOf_30 : decode cX0_stopsOf 30 = .ok (.iconst 1, 1) := by decide +kernel
theorem dX0_stopsOf_31 : decode cX0_stopsOf 31 = .ok (.aload_n 0, 1) := by decide +kernel
theorem dX0_stopsOf_32 : decode cX0_stopsOf 32 = .ok (.getfield 15, 3) := by decide +kernel
theorem dX0_stopsOf_35 : decode cX0_stopsOf 35 = .ok (.iload_n 3, 1) := by decide +kernel
theorem dX0_stopsOf_36 : decode cX0_stopsOf 36 = .ok (.iaload, 1) := by decide +kernel
theorem dX0_stopsOf_37 : decode cX0_stopsOf 37 = .ok (.ishl, 1) := by decide +kernel
theorem dX0_stopsOf_38 : decode cX0_stopsOf 38 = .ok (.ior, 1) := by decide +kernel
theorem dX0_stopsOf_39 : decode cX0_stopsOf 39 = .ok (.ior, 1) := by decide +kernel
theorem dX0_stopsOf_40 : decode cX0_stopsOf 40 = .ok (.istore_n 2, 1) := by decide +kernel
theorem dX0_stopsOf_41 : decode cX0_stopsOf 41 = .ok (.goto 23, 3) := by decide +kernel
theorem dX0_stopsOf_44 : decode cX0_stopsOf 44 = .ok (.aload_n 0, 1) := by decide +kernel
theorem dX0_stopsOf_45 : decode cX0_stopsOf 45 = .ok (.iload_n 3, 1) := by decide +kernel
theorem dX0_stopsOf_46 : decode cX0_stopsOf 46 = .ok (.iload_n 1, 1) := by decide +kernel
theorem dX0_stopsOf_47 : decode cX0_stopsOf 47 = .ok (.invokevirtual 58, 3) := by decide +kernel
theorem dX0_stopsOf_50 : decode cX0_stopsOf 50 = .ok (.ifCond .eq 14, 3) := by decide +kernel
theorem dX0_stopsOf_53 : decode cX0_stopsOf 53 = .ok (.iload_n 2, 1) := by decide +kernel
theorem dX0_stopsOf_54 : decode cX0_stopsOf 54 = .ok (.iconst 1, 1) := by decide +kernel
theorem dX0_stopsOf_55 : decode cX0_stopsOf 55 = .ok (.aload_n 0, 1) := by decide +kernel
theorem dX0_stopsOf_56 : decode cX0_stopsOf 56 = .ok (.getfield 15, 3) := by decide +kernel
theorem dX0_stopsOf_59 : decode cX0_stopsOf 59 = .ok (.iload_n 3, 1) := by decide +kernel
theorem dX0_stopsOf_60 : decode cX0_stopsOf 60 = .ok (.iaload, 1) := by decide +kernel
theorem dX0_stopsOf_61 : decode cX0_stopsOf 61 = .ok (.ishl, 1) := by decide +kernel
theorem dX0_stopsOf_62 : decode cX0_stopsOf 62 = .ok (.ior, 1) := by decide +kernel
theorem dX0_stopsOf_63 : decode cX0_stopsOf 63 = .ok (.istore_n 2, 1) := by decide +kernel
theorem dX0_stopsOf_64 : decode cX0_stopsOf 64 = .ok (.iinc 3 1, 3) := by decide +kernel
theorem dX0_stopsOf_67 : decode cX0_stopsOf 67 = .ok (.goto (-63), 3) := by decide +kernel
theorem dX0_stopsOf_70 : decode cX0_stopsOf 70 = .ok (.iload_n 2, 1) := by decide +kernel
theorem dX0_stopsOf_71 : decode cX0_stopsOf 71 = .ok (.ireturn, 1) := by decide +kernel
set_option maxRecDepth 20000 in
theorem ggX0_aimOf_X0_rides : GoodIn wsX0_aimOf wsX0_rides := goodIn_r _ [8, 9, 10, 22, 23, 24, 25, 26, 27, 28, 29, 30] (by decide +kernel) (by decide +kernel)
set_option maxRecDepth 20000 in
theorem gX0_aimOf_X0_rides : GoodIn wsX0_aimOf (wsV RX0 58 RX0 yX0_rides wsX0_rides) := goodIn_app (goodIn_of _ (by decide +kernel)) ggX0_aimOf_X0_rides
set_option maxRecDepth 20000 in
theorem ggX0_aimOf_X0_isNearer : GoodIn wsX0_aimOf wsX0_isNearer := goodIn_r _ [13, 14, 15, 16, 17] (by decide +kernel) (by decide +kernel)
set_option maxRecDepth 20000 in
theorem gX0_aimOf_X0_isNearer : GoodIn wsX0_aimOf (va_wsS RX0 61 yX0_isNearer wsX0_isNearer) := goodIn_app (goodIn_of _ (by decide +kernel)) ggX0_aimOf_X0_isNearer
set_option maxRecDepth 20000 in
theorem ggX0_aimOf_X0_waitsFor : GoodIn wsX0_aimOf wsX0_waitsFor := goodIn_r _ [21, 9, 10, 22, 23, 24, 25, 26, 27, 28, 29, 30] (by decide +kernel) (by decide +kernel)
set_option maxRecDepth 20000 in
theorem gX0_aimOf_X0_waitsFor : GoodIn wsX0_aimOf (wsV RX0 54 RX0 yX0_waitsFor wsX0_waitsFor) := goodIn_app (goodIn_of _ (by decide +kernel)) ggX0_aimOf_X0_waitsFor
theorem dX0_aimOf_0 : decode cX0_aimOf 0 = .ok (.bipush (-9), 2) := by decide +kernel
theorem dX0_aimOf_2 : decode cX0_aimOf 2 = .ok (.istore_n 3, 1) := by decide +kernel
theorem dX0_aimOf_3 : decode cX0_aimOf 3 = .ok (.bipush (-9), 2) := by decide +kernel
theorem dX0_aimOf_5 : decode cX0_aimOf 5 = .ok (.istore 4, 2) := by decide +kernel
theorem dX0_aimOf_7 : decode cX0_aimOf 7 = .ok (.iconst 0, 1) := by decide +kernel
theorem dX0_aimOf_8 : decode cX0_aimOf 8 = .ok (.istore 5, 2) := by decide +kernel
theorem dX0_aimOf_10 : decode cX0_aimOf 10 = .ok (.iload 5, 2) := by decide +kernel
theorem dX0_aimOf_12 : decode cX0_aimOf 12 = .ok (.aload_n 0, 1) := by decide +kernel
theorem dX0_aimOf_13 : decode cX0_aimOf 13 = .ok (.getfield 36, 3) := by decide +kernel
theorem dX0_aimOf_16 : decode cX0_aimOf 16 = .ok (.if_icmp .ge 77, 3) := by decide +kernel
theorem dX0_aimOf_19 : decode cX0_aimOf 19 = .ok (.aload_n 0, 1) := by decide +kernel
theorem dX0_aimOf_20 : decode cX0_aimOf 20 = .ok (.iload 5, 2) := by decide +kernel
theorem dX0_aimOf_22 : decode cX0_aimOf 22 = .ok (.iload_n 1, 1) := by decide +kernel
theorem dX0_aimOf_23 : decode cX0_aimOf 23 = .ok (.invokevirtual 58, 3) := by decide +kernel
theorem dX0_aimOf_26 : decode cX0_aimOf 26 = .ok (.ifCond .eq 35, 3) := by decide +kernel
theorem dX0_aimOf_29 : decode cX0_aimOf 29 = .ok (.iload_n 3, 1) := by decide +kernel
theorem dX0_aimOf_30 : decode cX0_aimOf 30 = .ok (.bipush (-9), 2) := by decide +kernel
theorem dX0_aimOf_32 : decode cX0_aimOf 32 = .ok (.if_icmp .eq 18, 3) := by decide +kernel
theorem dX0_aimOf_35 : decode cX0_aimOf 35 = .ok (.aload_n 0, 1) := by decide +kernel
theorem dX0_aimOf_36 : decode cX0_aimOf 36 = .ok (.getfield 15, 3) := by decide +kernel
theorem dX0_aimOf_39 : decode cX0_aimOf 39 = .ok (.iload 5, 2) := by decide +kernel
theorem dX0_aimOf_41 : decode cX0_aimOf 41 = .ok (.iaload, 1) := by decide +kernel
theorem dX0_aimOf_42 : decode cX0_aimOf 42 = .ok (.iload_n 3, 1) := by decide +kernel
theorem dX0_aimOf_43 : decode cX0_aimOf 43 = .ok (.iload_n 2, 1) := by decide +kernel
theorem dX0_aimOf_44 : decode cX0_aimOf 44 = .ok (.invokestatic 61, 3) := by decide +kernel
theorem dX0_aimOf_47 : decode cX0_aimOf 47 = .ok (.ifCond .eq 40, 3) := by decide +kernel
theorem dX0_aimOf_50 : decode cX0_aimOf 50 = .ok (.aload_n 0, 1) := by decide +kernel
theorem dX0_aimOf_51 : decode cX0_aimOf 51 = .ok (.getfield 15, 3) := by decide +kernel
theorem dX0_aimOf_54 : decode cX0_aimOf 54 = .ok (.iload 5, 2) := by decide +kernel
theorem dX0_aimOf_56 : decode cX0_aimOf 56 = .ok (.iaload, 1) := by decide +kernel
theorem dX0_aimOf_57 : decode cX0_aimOf 57 = .ok (.istore_n 3, 1) := by decide +kernel
theorem dX0_aimOf_58 : decode cX0_aimOf 58 = .ok (.goto 29, 3) := by decide +kernel
theorem dX0_aimOf_61 : decode cX0_aimOf 61 = .ok (.iload 4, 2) := by decide +kernel
theorem dX0_aimOf_63 : decode cX0_aimOf 63 = .ok (.bipush (-9), 2) := by decide +kernel
theorem dX0_aimOf_65 : decode cX0_aimOf 65 = .ok (.if_icmp .ne 22, 3) := by decide +kernel
theorem dX0_aimOf_68 : decode cX0_aimOf 68 = .ok (.aload_n 0, 1) := by decide +kernel
theorem dX0_aimOf_69 : decode cX0_aimOf 69 = .ok (.iload 5, 2) := by decide +kernel
theorem dX0_aimOf_71 : decode cX0_aimOf 71 = .ok (.iload_n 1, 1) := by decide +kernel
theorem dX0_aimOf_72 : decode cX0_aimOf 72 = .ok (.invokevirtual 54, 3) := by decide +kernel
theorem dX0_aimOf_75 : decode cX0_aimOf 75 = .ok (.ifCond .eq 12, 3) := by decide +kernel
theorem dX0_aimOf_78 : decode cX0_aimOf 78 = .ok (.aload_n 0, 1) := by decide +kernel
theorem dX0_aimOf_79 : decode cX0_aimOf 79 = .ok (.getfield 9, 3) := by decide +kernel
theorem dX0_aimOf_82 : decode cX0_aimOf 82 = .ok (.iload 5, 2) := by decide +kernel
theorem dX0_aimOf_84 : decode cX0_aimOf 84 = .ok (.iaload, 1) := by decide +kernel
theorem dX0_aimOf_85 : decode cX0_aimOf 85 = .ok (.istore 4, 2) := by decide +kernel
theorem dX0_aimOf_87 : decode cX0_aimOf 87 = .ok (.iinc 5 1, 3) := by decide +kernel
theorem dX0_aimOf_90 : decode cX0_aimOf 90 = .ok (.goto (-80), 3) := by decide +kernel
theorem dX0_aimOf_93 : decode cX0_aimOf 93 = .ok (.iload_n 3, 1) := by decide +kernel
theorem dX0_aimOf_94 : decode cX0_aimOf 94 = .ok (.bipush (-9), 2) := by decide +kernel
theorem dX0_aimOf_96 : decode cX0_aimOf 96 = .ok (.if_icmp .eq 7, 3) := by decide +kernel
theorem dX0_aimOf_99 : decode cX0_aimOf 99 = .ok (.iload_n 3, 1) := by decide +kernel
theorem dX0_aimOf_100 : decode cX0_aimOf 100 = .ok (.goto 5, 3) := by decide +kernel
theorem dX0_aimOf_103 : decode cX0_aimOf 103 = .ok (.iload 4, 2) := by decide +kernel
theorem dX0_aimOf_105 : decode cX0_aimOf 105 = .ok (.ireturn, 1) := by decide +kernel
theorem dX0_isNearer_0 : decode cX0_isNearer 0 = .ok (.iload_n 0, 1) := by decide +kernel
theorem dX0_isNearer_1 : decode cX0_isNearer 1 = .ok (.iload_n 2, 1) := by decide +kernel
theorem dX0_isNearer_2 : decode cX0_isNearer 2 = .ok (.isub, 1) := by decide +kernel
theorem dX0_isNearer_3 : decode cX0_isNearer 3 = .ok (.invokestatic 65, 3) := by decide +kernel
theorem dX0_isNearer_6 : decode cX0_isNearer 6 = .ok (.istore_n 3, 1) := by decide +kernel
theorem dX0_isNearer_7 : decode cX0_isNearer 7 = .ok (.iload_n 1, 1) := by decide +kernel
theorem dX0_isNearer_8 : decode cX0_isNearer 8 = .ok (.iload_n 2, 1) := by decide +kernel
theorem dX0_isNearer_9 : decode cX0_isNearer 9 = .ok (.isub, 1) := by decide +kernel
theorem dX0_isNearer_10 : decode cX0_isNearer 10 = .ok (.invokestatic 65, 3) := by decide +kernel
theorem dX0_isNearer_13 : decode cX0_isNearer 13 = .ok (.istore 4, 2) := by decide +kernel
theorem dX0_isNearer_15 : decode cX0_isNearer 15 = .ok (.iload_n 3, 1) := by decide +kernel
theorem dX0_isNearer_16 : decode cX0_isNearer 16 = .ok (.iload 4, 2) := by decide +kernel
theorem dX0_isNearer_18 : decode cX0_isNearer 18 = .ok (.if_icmp .lt 14, 3) := by decide +kernel
theorem dX0_isNearer_21 : decode cX0_isNearer 21 = .ok (.iload_n 3, 1) := by decide +kernel
theorem dX0_isNearer_22 : decode cX0_isNearer 22 = .ok (.iload 4, 2) := by decide +kernel
theorem dX0_isNearer_24 : decode cX0_isNearer 24 = .ok (.if_icmp .ne 12, 3) := by decide +kernel
theorem dX0_isNearer_27 : decode cX0_isNearer 27 = .ok (.iload_n 0, 1) := by decide +kernel
theorem dX0_isNearer_28 : decode cX0_isNearer 28 = .ok (.iload_n 1, 1) := by decide +kernel
theorem dX0_isNearer_29 : decode cX0_isNearer 29 = .ok (.if_icmp .ge 7, 3) := by decide +kernel
theorem dX0_isNearer_32 : decode cX0_isNearer 32 = .ok (.iconst 1, 1) := by decide +kernel
theorem dX0_isNearer_33 : decode cX0_isNearer 33 = .ok (.goto 4, 3) := by decide +kernel
theorem dX0_isNearer_36 : decode cX0_isNearer 36 = .ok (.iconst 0, 1) := by decide +kernel
theorem dX0_isNearer_37 : decode cX0_isNearer 37 = .ok (.ireturn, 1) := by decide +kernel
set_option maxRecDepth 20000 in
theorem ggX0_letOut_X0_rides : GoodIn wsX0_letOut wsX0_rides := goodIn_r _ [9, 3, 10, 11, 12, 13, 14, 15, 16, 17, 18, 19] (by decide +kernel) (by decide +kernel)
set_option maxRecDepth 20000 in
theorem gX0_letOut_X0_rides : GoodIn wsX0_letOut (wsV RX0 58 RX0 yX0_rides wsX0_rides) := goodIn_app (goodIn_of _ (by decide +kernel)) ggX0_letOut_X0_rides
theorem dX0_letOut_0 : decode cX0_letOut 0 = .ok (.iconst 0, 1) := by decide +kernel
theorem dX0_letOut_1 : decode cX0_letOut 1 = .ok (.istore 4, 2) := by decide +kernel
theorem dX0_letOut_3 : decode cX0_letOut 3 = .ok (.iconst 0, 1) := by decide +kernel
theorem dX0_letOut_4 : decode cX0_letOut 4 = .ok (.istore 5, 2) := by decide +kernel
theorem dX0_letOut_6 : decode cX0_letOut 6 = .ok (.iload 5, 2) := by decide +kernel
theorem dX0_letOut_8 : decode cX0_letOut 8 = .ok (.aload_n 0, 1) := by decide +kernel
theorem dX0_letOut_9 : decode cX0_letOut 9 = .ok (.getfield 36, 3) := by decide +kernel
theorem dX0_letOut_12 : decode cX0_letOut 12 = .ok (.if_icmp .ge 49, 3) := by decide +kernel
theorem dX0_letOut_15 : decode cX0_letOut 15 = .ok (.aload_n 0, 1) := by decide +kernel
theorem dX0_letOut_16 : decode cX0_letOut 16 = .ok (.iload 5, 2) := by decide +kernel
theorem dX0_letOut_18 : decode cX0_letOut 18 = .ok (.iload_n 1, 1) := by decide +kernel
theorem dX0_letOut_19 : decode cX0_letOut 19 = .ok (.invokevirtual 58, 3) := by decide +kernel
theorem dX0_letOut_22 : decode cX0_letOut 22 = .ok (.ifCond .eq 33, 3) := by decide +kernel
theorem dX0_letOut_25 : decode cX0_letOut 25 = .ok (.aload_n 0, 1) := by decide +kernel
theorem dX0_letOut_26 : decode cX0_letOut 26 = .ok (.getfield 15, 3) := by decide +kernel
theorem dX0_letOut_29 : decode cX0_letOut 29 = .ok (.iload 5, 2) := by decide +kernel
theorem dX0_letOut_31 : decode cX0_letOut 31 = .ok (.iaload, 1) := by decide +kernel
theorem dX0_letOut_32 : decode cX0_letOut 32 = .ok (.iload_n 2, 1) := by decide +kernel
theorem dX0_letOut_33 : decode cX0_letOut 33 = .ok (.if_icmp .ne 22, 3) := by decide +kernel
theorem dX0_letOut_36 : decode cX0_letOut 36 = .ok (.aload_n 0, 1) := by decide +kernel
theorem dX0_letOut_37 : decode cX0_letOut 37 = .ok (.getfield 18, 3) := by decide +kernel
theorem dX0_letOut_40 : decode cX0_letOut 40 = .ok (.iload 5, 2) := by decide +kernel
theorem dX0_letOut_42 : decode cX0_letOut 42 = .ok (.iconst 3, 1) := by decide +kernel
theorem dX0_letOut_43 : decode cX0_letOut 43 = .ok (.iastore, 1) := by decide +kernel
theorem dX0_letOut_44 : decode cX0_letOut 44 = .ok (.aload_n 0, 1) := by decide +kernel
theorem dX0_letOut_45 : decode cX0_letOut 45 = .ok (.getfield 30, 3) := by decide +kernel
theorem dX0_letOut_48 : decode cX0_letOut 48 = .ok (.iload 5, 2) := by decide +kernel
theorem dX0_letOut_50 : decode cX0_letOut 50 = .ok (.iload_n 3, 1) := by decide +kernel
theorem dX0_letOut_51 : decode cX0_letOut 51 = .ok (.iastore, 1) := by decide +kernel
theorem dX0_letOut_52 : decode cX0_letOut 52 = .ok (.iinc 4 1, 3) := by decide +kernel
theorem dX0_letOut_55 : decode cX0_letOut 55 = .ok (.iinc 5 1, 3) := by decide +kernel
theorem dX0_letOut_58 : decode cX0_letOut 58 = .ok (.goto (-52), 3) := by decide +kernel
theorem dX0_letOut_61 : decode cX0_letOut 61 = .ok (.iload 4, 2) := by decide +kernel
theorem dX0_letOut_63 : decode cX0_letOut 63 = .ok (.ireturn, 1) := by decide +kernel
set_option maxRecDepth 20000 in
theorem ggX0_takeIn_X0_numberOf : GoodIn wsX0_takeIn wsX0_numberOf := goodIn_r _ [9, 1, 3, 10, 15, 16, 17, 18, 19, 20, 21, 22, 23] (by decide +kernel) (by decide +kernel)
set_option maxRecDepth 20000 in
theorem gX0_takeIn_X0_numberOf : GoodIn wsX0_takeIn (wsV RX0 50 RX0 yX0_numberOf wsX0_numberOf) := goodIn_app (goodIn_of _ (by decide +kernel)) ggX0_takeIn_X0_numberOf
set_option maxRecDepth 20000 in
theorem ggX0_takeIn_X0_waitsFor : GoodIn wsX0_takeIn wsX0_waitsFor := goodIn_r _ [14, 3, 10, 15, 16, 17, 18, 19, 20, 21, 22, 23] (by decide +kernel) (by decide +kernel)
set_option maxRecDepth 20000 in
theorem gX0_takeIn_X0_waitsFor : GoodIn wsX0_takeIn (wsV RX0 54 RX0 yX0_waitsFor wsX0_waitsFor) := goodIn_app (goodIn_of _ (by decide +kernel)) ggX0_takeIn_X0_waitsFor
theorem dX0_takeIn_0 : decode cX0_takeIn 0 = .ok (.iload_n 3, 1) := by decide +kernel
theorem dX0_takeIn_1 : decode cX0_takeIn 1 = .ok (.aload_n 0, 1) := by decide +kernel
theorem dX0_takeIn_2 : decode cX0_takeIn 2 = .ok (.iload_n 1, 1) := by decide +kernel
theorem dX0_takeIn_3 : decode cX0_takeIn 3 = .ok (.iconst 2, 1) := by decide +kernel
theorem dX0_takeIn_4 : decode cX0_takeIn 4 = .ok (.invokevirtual 50, 3) := by decide +kernel
theorem dX0_takeIn_7 : decode cX0_takeIn 7 = .ok (.isub, 1) := by decide +kernel
theorem dX0_takeIn_8 : decode cX0_takeIn 8 = .ok (.istore 5, 2) := by decide +kernel
theorem dX0_takeIn_10 : decode cX0_takeIn 10 = .ok (.iconst 0, 1) := by decide +kernel
theorem dX0_takeIn_11 : decode cX0_takeIn 11 = .ok (.istore 6, 2) := by decide +kernel
theorem dX0_takeIn_13 : decode cX0_takeIn 13 = .ok (.iconst 0, 1) := by decide +kernel
theorem dX0_takeIn_14 : decode cX0_takeIn 14 = .ok (.istore 7, 2) := by decide +kernel
theorem dX0_takeIn_16 : decode cX0_takeIn 16 = .ok (.iload 7, 2) := by decide +kernel
theorem dX0_takeIn_18 : decode cX0_takeIn 18 = .ok (.aload_n 0, 1) := by decide +kernel
theorem dX0_takeIn_19 : decode cX0_takeIn 19 = .ok (.getfield 36, 3) := by decide +kernel
theorem dX0_takeIn_22 : decode cX0_takeIn 22 = .ok (.if_icmp .ge 57, 3) := by decide +kernel
theorem dX0_takeIn_25 : decode cX0_takeIn 25 = .ok (.iload 6, 2) := by decide +kernel
theorem dX0_takeIn_27 : decode cX0_takeIn 27 = .ok (.iload 5, 2) := by decide +kernel
theorem dX0_takeIn_29 : decode cX0_takeIn 29 = .ok (.if_icmp .ge 50, 3) := by decide +kernel
theorem dX0_takeIn_32 : decode cX0_takeIn 32 = .ok (.aload_n 0, 1) := by decide +kernel
theorem dX0_takeIn_33 : decode cX0_takeIn 33 = .ok (.iload 7, 2) := by decide +kernel
theorem dX0_takeIn_35 : decode cX0_takeIn 35 = .ok (.iload_n 1, 1) := by decide +kernel
theorem dX0_takeIn_36 : decode cX0_takeIn 36 = .ok (.invokevirtual 54, 3) := by decide +kernel
theorem dX0_takeIn_39 : decode cX0_takeIn 39 = .ok (.ifCond .eq 34, 3) := by decide +kernel
theorem dX0_takeIn_42 : decode cX0_takeIn 42 = .ok (.aload_n 0, 1) := by decide +kernel
theorem dX0_takeIn_43 : decode cX0_takeIn 43 = .ok (.getfield 9, 3) := by decide +kernel
theorem dX0_takeIn_46 : decode cX0_takeIn 46 = .ok (.iload 7, 2) := by decide +kernel
theorem dX0_takeIn_48 : decode cX0_takeIn 48 = .ok (.iaload, 1) := by decide +kernel
theorem dX0_takeIn_49 : decode cX0_takeIn 49 = .ok (.iload_n 2, 1) := by decide +kernel
theorem dX0_takeIn_50 : decode cX0_takeIn 50 = .ok (.if_icmp .ne 23, 3) := by decide +kernel
theorem dX0_takeIn_53 : decode cX0_takeIn 53 = .ok (.aload_n 0, 1) := by decide +kernel
theorem dX0_takeIn_54 : decode cX0_takeIn 54 = .ok (.getfield 18, 3) := by decide +kernel
theorem dX0_takeIn_57 : decode cX0_takeIn 57 = .ok (.iload 7, 2) := by decide +kernel
theorem dX0_takeIn_59 : decode cX0_takeIn 59 = .ok (.iconst 2, 1) := by decide +kernel
theorem dX0_takeIn_60 : decode cX0_takeIn 60 = .ok (.iastore, 1) := by decide +kernel
theorem dX0_takeIn_61 : decode cX0_takeIn 61 = .ok (.aload_n 0, 1) := by decide +kernel
theorem dX0_takeIn_62 : decode cX0_takeIn 62 = .ok (.getfield 27, 3) := by decide +kernel
theorem dX0_takeIn_65 : decode cX0_takeIn 65 = .ok (.iload 7, 2) := by decide +kernel
theorem dX0_takeIn_67 : decode cX0_takeIn 67 = .ok (.iload 4, 2) := by decide +kernel
theorem dX0_takeIn_69 : decode cX0_takeIn 69 = .ok (.iastore, 1) := by decide +kernel
theorem dX0_takeIn_70 : decode cX0_takeIn 70 = .ok (.iinc 6 1, 3) := by decide +kernel
theorem dX0_takeIn_73 : decode cX0_takeIn 73 = .ok (.iinc 7 1, 3) := by decide +kernel
theorem dX0_takeIn_76 : decode cX0_takeIn 76 = .ok (.goto (-60), 3) := by decide +kernel
theorem dX0_takeIn_79 : decode cX0_takeIn 79 = .ok (.iload 6, 2) := by decide +kernel
theorem dX0_takeIn_81 : decode cX0_takeIn 81 = .ok (.ireturn, 1) := by decide +kernel
set_option maxRecDepth 20000 in
theorem ggX0_loseCar_X0_rides : GoodIn wsX0_loseCar wsX0_rides := goodIn_r _ [11, 4, 6, 16, 17, 18, 19, 20, 21, 22, 23, 24] (by decide +kernel) (by decide +kernel)
set_option maxRecDepth 20000 in
theorem gX0_loseCar_X0_rides : GoodIn wsX0_loseCar (wsV RX0 58 RX0 yX0_rides wsX0_rides) := goodIn_app (goodIn_of _ (by decide +kernel)) ggX0_loseCar_X0_rides
set_option maxRecDepth 20000 in
theorem ggX0_loseCar_X0_waitsFor : GoodIn wsX0_loseCar wsX0_waitsFor := goodIn_r _ [15, 4, 6, 16, 17, 18, 19, 20, 21, 22, 23, 24] (by decide +kernel) (by decide +kernel)
set_option maxRecDepth 20000 in
theorem gX0_loseCar_X0_waitsFor : GoodIn wsX0_loseCar (wsV RX0 54 RX0 yX0_waitsFor wsX0_waitsFor) := goodIn_app (goodIn_of _ (by decide +kernel)) ggX0_loseCar_X0_waitsFor
theorem dX0_loseCar_0 : decode cX0_loseCar 0 = .ok (.iconst 0, 1) := by decide +kernel
theorem dX0_loseCar_1 : decode cX0_loseCar 1 = .ok (.istore 4, 2) := by decide +kernel
theorem dX0_loseCar_3 : decode cX0_loseCar 3 = .ok (.iload 4, 2) := by decide +kernel
theorem dX0_loseCar_5 : decode cX0_loseCar 5 = .ok (.aload_n 0, 1) := by decide +kernel
theorem dX0_loseCar_6 : decode cX0_loseCar 6 = .ok (.getfield 36, 3) := by decide +kernel
theorem dX0_loseCar_9 : decode cX0_loseCar 9 = .ok (.if_icmp .ge 101, 3) := by decide +kernel
theorem dX0_loseCar_12 : decode cX0_loseCar 12 = .ok (.aload_n 0, 1) := by decide +kernel
theorem dX0_loseCar_13 : decode cX0_loseCar 13 = .ok (.iload 4, 2) := by decide +kernel
theorem dX0_loseCar_15 : decode cX0_loseCar 15 = .ok (.iload_n 1, 1) := by decide +kernel
theorem dX0_loseCar_16 : decode cX0_loseCar 16 = .ok (.invokevirtual 58, 3) := by decide +kernel
theorem dX0_loseCar_19 : decode cX0_loseCar 19 = .ok (.istore 5, 2) := by decide +kernel
theorem dX0_loseCar_21 : decode cX0_loseCar 21 = .ok (.iload 5, 2) := by decide +kernel
theorem dX0_loseCar_23 : decode cX0_loseCar 23 = .ok (.ifCond .ne 16, 3) := by decide +kernel
theorem dX0_loseCar_26 : decode cX0_loseCar 26 = .ok (.aload_n 0, 1) := by decide +kernel
theorem dX0_loseCar_27 : decode cX0_loseCar 27 = .ok (.iload 4, 2) := by decide +kernel
theorem dX0_loseCar_29 : decode cX0_loseCar 29 = .ok (.iload_n 1, 1) := by decide +kernel
theorem dX0_loseCar_30 : decode cX0_loseCar 30 = .ok (.invokevirtual 54, 3) := by decide +kernel
theorem dX0_loseCar_33 : decode cX0_loseCar 33 = .ok (.ifCond .ne 6, 3) := by decide +kernel
theorem dX0_loseCar_36 : decode cX0_loseCar 36 = .ok (.goto 68, 3) := by decide +kernel
theorem dX0_loseCar_39 : decode cX0_loseCar 39 = .ok (.iload 5, 2) := by decide +kernel
theorem dX0_loseCar_41 : decode cX0_loseCar 41 = .ok (.ifCond .eq 11, 3) := by decide +kernel
theorem dX0_loseCar_44 : decode cX0_loseCar 44 = .ok (.aload_n 0, 1) := by decide +kernel
theorem dX0_loseCar_45 : decode cX0_loseCar 45 = .ok (.getfield 9, 3) := by decide +kernel
theorem dX0_loseCar_48 : decode cX0_loseCar 48 = .ok (.iload 4, 2) := by decide +kernel
theorem dX0_loseCar_50 : decode cX0_loseCar 50 = .ok (.iload_n 2, 1) := by decide +kernel
theorem dX0_loseCar_51 : decode cX0_loseCar 51 = .ok (.iastore, 1) := by decide +kernel
theorem dX0_loseCar_52 : decode cX0_loseCar 52 = .ok (.iload 5, 2) := by decide +kernel
theorem dX0_loseCar_54 : decode cX0_loseCar 54 = .ok (.ifCond .eq 33, 3) := by decide +kernel
theorem dX0_loseCar_57 : decode cX0_loseCar 57 = .ok (.aload_n 0, 1) := by decide +kernel
theorem dX0_loseCar_58 : decode cX0_loseCar 58 = .ok (.getfield 15, 3) := by decide +kernel
theorem dX0_loseCar_61 : decode cX0_loseCar 61 = .ok (.iload 4, 2) := by decide +kernel
theorem dX0_loseCar_63 : decode cX0_loseCar 63 = .ok (.iaload, 1) := by decide +kernel
theorem dX0_loseCar_64 : decode cX0_loseCar 64 = .ok (.iload_n 2, 1) := by decide +kernel
theorem dX0_loseCar_65 : decode cX0_loseCar 65 = .ok (.if_icmp .ne 22, 3) := by decide +kernel
theorem dX0_loseCar_68 : decode cX0_loseCar 68 = .ok (.aload_n 0, 1) := by decide +kernel
theorem dX0_loseCar_69 : decode cX0_loseCar 69 = .ok (.getfield 18, 3) := by decide +kernel
theorem dX0_loseCar_72 : decode cX0_loseCar 72 = .ok (.iload 4, 2) := by decide +kernel
theorem dX0_loseCar_74 : decode cX0_loseCar 74 = .ok (.iconst 3, 1) := by decide +kernel
theorem dX0_loseCar_75 : decode cX0_loseCar 75 = .ok (.iastore, 1) := by decide +kernel
theorem dX0_loseCar_76 : decode cX0_loseCar 76 = .ok (.aload_n 0, 1) := by decide +kernel
theorem dX0_loseCar_77 : decode cX0_loseCar 77 = .ok (.getfield 30, 3) := by decide +kernel
theorem dX0_loseCar_80 : decode cX0_loseCar 80 = .ok (.iload 4, 2) := by decide +kernel
theorem dX0_loseCar_82 : decode cX0_loseCar 82 = .ok (.iload_n 3, 1) := by decide +kernel
theorem dX0_loseCar_83 : decode cX0_loseCar 83 = .ok (.iastore, 1) := by decide +kernel
theorem dX0_loseCar_84 : decode cX0_loseCar 84 = .ok (.goto 20, 3) := by decide +kernel
theorem dX0_loseCar_87 : decode cX0_loseCar 87 = .ok (.aload_n 0, 1) := by decide +kernel
theorem dX0_loseCar_88 : decode cX0_loseCar 88 = .ok (.getfield 18, 3) := by decide +kernel
theorem dX0_loseCar_91 : decode cX0_loseCar 91 = .ok (.iload 4, 2) := by decide +kernel
theorem dX0_loseCar_93 : decode cX0_loseCar 93 = .ok (.iconst 0, 1) := by decide +kernel
theorem dX0_loseCar_94 : decode cX0_loseCar 94 = .ok (.iastore, 1) := by decide +kernel
theorem dX0_loseCar_95 : decode cX0_loseCar 95 = .ok (.aload_n 0, 1) := by decide +kernel
theorem dX0_loseCar_96 : decode cX0_loseCar 96 = .ok (.getfield 21, 3) := by decide +kernel
theorem dX0_loseCar_99 : decode cX0_loseCar 99 = .ok (.iload 4, 2) := by decide +kernel
theorem dX0_loseCar_101 : decode cX0_loseCar 101 = .ok (.bipush (-9), 2) := by decide +kernel
theorem dX0_loseCar_103 : decode cX0_loseCar 103 = .ok (.iastore, 1) := by decide +kernel
theorem dX0_loseCar_104 : decode cX0_loseCar 104 = .ok (.iinc 4 1, 3) := by decide +kernel
theorem dX0_loseCar_107 : decode cX0_loseCar 107 = .ok (.goto (-104), 3) := by decide +kernel
theorem dX0_loseCar_110 : decode cX0_loseCar 110 = .ok (.return_, 1) := by decide +kernel
theorem dX0_waitOf_0 : decode cX0_waitOf 0 = .ok (.aload_n 0, 1) := by decide +kernel
theorem dX0_waitOf_1 : decode cX0_waitOf 1 = .ok (.getfield 18, 3) := by decide +kernel
theorem dX0_waitOf_4 : decode cX0_waitOf 4 = .ok (.iload_n 1, 1) := by decide +kernel
theorem dX0_waitOf_5 : decode cX0_waitOf 5 = .ok (.iaload, 1) := by decide +kernel
theorem dX0_waitOf_6 : decode cX0_waitOf 6 = .ok (.iconst 2, 1) := by decide +kernel
theorem dX0_waitOf_7 : decode cX0_waitOf 7 = .ok (.if_icmp .eq 13, 3) := by decide +kernel
theorem dX0_waitOf_10 : decode cX0_waitOf 10 = .ok (.aload_n 0, 1) := by decide +kernel
theorem dX0_waitOf_11 : decode cX0_waitOf 11 = .ok (.getfield 18, 3) := by decide +kernel
theorem dX0_waitOf_14 : decode cX0_waitOf 14 = .ok (.iload_n 1, 1) := by decide +kernel
theorem dX0_waitOf_15 : decode cX0_waitOf 15 = .ok (.iaload, 1) := by decide +kernel
theorem dX0_waitOf_16 : decode cX0_waitOf 16 = .ok (.iconst 3, 1) := by decide +kernel
theorem dX0_waitOf_17 : decode cX0_waitOf 17 = .ok (.if_icmp .ne 7, 3) := by decide +kernel
theorem dX0_waitOf_20 : decode cX0_waitOf 20 = .ok (.iconst 1, 1) := by decide +kernel
theorem dX0_waitOf_21 : decode cX0_waitOf 21 = .ok (.goto 4, 3) := by decide +kernel
theorem dX0_waitOf_24 : decode cX0_waitOf 24 = .ok (.iconst 0, 1) := by decide +kernel
theorem dX0_waitOf_25 : decode cX0_waitOf 25 = .ok (.istore_n 3, 1) := by decide +kernel
theorem dX0_waitOf_26 : decode cX0_waitOf 26 = .ok (.iload_n 3, 1) := by decide +kernel
theorem dX0_waitOf_27 : decode cX0_waitOf 27 = .ok (.ifCond .eq 12, 3) := by decide +kernel
theorem dX0_waitOf_30 : decode cX0_waitOf 30 = .ok (.aload_n 0, 1) := by decide +kernel
theorem dX0_waitOf_31 : decode cX0_waitOf 31 = .ok (.getfield 27, 3) := by decide +kernel
theorem dX0_waitOf_34 : decode cX0_waitOf 34 = .ok (.iload_n 1, 1) := by decide +kernel
theorem dX0_waitOf_35 : decode cX0_waitOf 35 = .ok (.iaload, 1) := by decide +kernel
theorem dX0_waitOf_36 : decode cX0_waitOf 36 = .ok (.goto 4, 3) := by decide +kernel
theorem dX0_waitOf_39 : decode cX0_waitOf 39 = .ok (.iload_n 2, 1) := by decide +kernel
theorem dX0_waitOf_40 : decode cX0_waitOf 40 = .ok (.aload_n 0, 1) := by decide +kernel
theorem dX0_waitOf_41 : decode cX0_waitOf 41 = .ok (.getfield 24, 3) := by decide +kernel
theorem dX0_waitOf_44 : decode cX0_waitOf 44 = .ok (.iload_n 1, 1) := by decide +kernel
theorem dX0_waitOf_45 : decode cX0_waitOf 45 = .ok (.iaload, 1) := by decide +kernel
theorem dX0_waitOf_46 : decode cX0_waitOf 46 = .ok (.isub, 1) := by decide +kernel
theorem dX0_waitOf_47 : decode cX0_waitOf 47 = .ok (.ireturn, 1) := by decide +kernel
theorem dX0_isInGroup_0 : decode cX0_isInGroup 0 = .ok (.aload_n 0, 1) := by decide +kernel
theorem dX0_isInGroup_1 : decode cX0_isInGroup 1 = .ok (.getfield 18, 3) := by decide +kernel
theorem dX0_isInGroup_4 : decode cX0_isInGroup 4 = .ok (.iload_n 1, 1) := by decide +kernel
theorem dX0_isInGroup_5 : decode cX0_isInGroup 5 = .ok (.iaload, 1) := by decide +kernel
theorem dX0_isInGroup_6 : decode cX0_isInGroup 6 = .ok (.ifCond .eq 13, 3) := by decide +kernel
theorem dX0_isInGroup_9 : decode cX0_isInGroup 9 = .ok (.aload_n 0, 1) := by decide +kernel
theorem dX0_isInGroup_10 : decode cX0_isInGroup 10 = .ok (.getfield 18, 3) := by decide +kernel
theorem dX0_isInGroup_13 : decode cX0_isInGroup 13 = .ok (.iload_n 1, 1) := by decide +kernel
theorem dX0_isInGroup_14 : decode cX0_isInGroup 14 = .ok (.iaload, 1) := by decide +kernel
theorem dX0_isInGroup_15 : decode cX0_isInGroup 15 = .ok (.iconst 1, 1) := by decide +kernel
theorem dX0_isInGroup_16 : decode cX0_isInGroup 16 = .ok (.if_icmp .ne 7, 3) := by decide +kernel
theorem dX0_isInGroup_19 : decode cX0_isInGroup 19 = .ok (.iconst 1, 1) := by decide +kernel
theorem dX0_isInGroup_20 : decode cX0_isInGroup 20 = .ok (.goto 4, 3) := by decide +kernel
theorem dX0_isInGroup_23 : decode cX0_isInGroup 23 = .ok (.iconst 0, 1) := by decide +kernel
theorem dX0_isInGroup_24 : decode cX0_isInGroup 24 = .ok (.ireturn, 1) := by decide +kernel
set_option maxRecDepth 20000 in
theorem ggX0_sameGroup_X0_isInGroup : GoodIn wsX0_sameGroup wsX0_isInGroup := goodIn_r _ [7, 8, 9, 10, 11, 12, 13, 14, 15, 16, 17] (by decide +kernel) (by decide +kernel)
set_option maxRecDepth 20000 in
theorem gX0_sameGroup_X0_isInGroup : GoodIn wsX0_sameGroup (wsV RX0 71 RX0 yX0_isInGroup wsX0_isInGroup) := goodIn_app (goodIn_of _ (by decide +kernel)) ggX0_sameGroup_X0_isInGroup
theorem dX0_sameGroup_0 : decode cX0_sameGroup 0 = .ok (.aload_n 0, 1) := by decide +kernel
theorem dX0_sameGroup_1 : decode cX0_sameGroup 1 = .ok (.iload_n 1, 1) := by decide +kernel
theorem dX0_sameGroup_2 : decode cX0_sameGroup 2 = .ok (.invokevirtual 71, 3) := by decide +kernel
theorem dX0_sameGroup_5 : decode cX0_sameGroup 5 = .ok (.ifCond .eq 45, 3) := by decide +kernel
theorem dX0_sameGroup_8 : decode cX0_sameGroup 8 = .ok (.aload_n 0, 1) := by decide +kernel
theorem dX0_sameGroup_9 : decode cX0_sameGroup 9 = .ok (.iload_n 2, 1) := by decide +kernel
theorem dX0_sameGroup_10 : decode cX0_sameGroup 10 = .ok (.invokevirtual 71, 3) := by decide +kernel
theorem dX0_sameGroup_13 : decode cX0_sameGroup 13 = .ok (.ifCond .eq 37, 3) := by decide +kernel
theorem dX0_sameGroup_16 : decode cX0_sameGroup 16 = .ok (.aload_n 0, 1) := by decide +kernel
theorem dX0_sameGroup_17 : decode cX0_sameGroup 17 = .ok (.getfield 9, 3) := by decide +kernel
theorem dX0_sameGroup_20 : decode cX0_sameGroup 20 = .ok (.iload_n 1, 1) := by decide +kernel
theorem dX0_sameGroup_21 : decode cX0_sameGroup 21 = .ok (.iaload, 1) := by decide +kernel
theorem dX0_sameGroup_22 : decode cX0_sameGroup 22 = .ok (.aload_n 0, 1) := by decide +kernel
theorem dX0_sameGroup_23 : decode cX0_sameGroup 23 = .ok (.getfield 9, 3) := by decide +kernel
theorem dX0_sameGroup_26 : decode cX0_sameGroup 26 = .ok (.iload_n 2, 1) := by decide +kernel
theorem dX0_sameGroup_27 : decode cX0_sameGroup 27 = .ok (.iaload, 1) := by decide +kernel
theorem dX0_sameGroup_28 : decode cX0_sameGroup 28 = .ok (.if_icmp .ne 22, 3) := by decide +kernel
theorem dX0_sameGroup_31 : decode cX0_sameGroup 31 = .ok (.aload_n 0, 1) := by decide +kernel
theorem dX0_sameGroup_32 : decode cX0_sameGroup 32 = .ok (.getfield 15, 3) := by decide +kernel
theorem dX0_sameGroup_35 : decode cX0_sameGroup 35 = .ok (.iload_n 1, 1) := by decide +kernel
theorem dX0_sameGroup_36 : decode cX0_sameGroup 36 = .ok (.iaload, 1) := by decide +kernel
theorem dX0_sameGroup_37 : decode cX0_sameGroup 37 = .ok (.aload_n 0, 1) := by decide +kernel
theorem dX0_sameGroup_38 : decode cX0_sameGroup 38 = .ok (.getfield 15, 3) := by decide +kernel
theorem dX0_sameGroup_41 : decode cX0_sameGroup 41 = .ok (.iload_n 2, 1) := by decide +kernel
theorem dX0_sameGroup_42 : decode cX0_sameGroup 42 = .ok (.iaload, 1) := by decide +kernel
theorem dX0_sameGroup_43 : decode cX0_sameGroup 43 = .ok (.if_icmp .ne 7, 3) := by decide +kernel
theorem dX0_sameGroup_46 : decode cX0_sameGroup 46 = .ok (.iconst 1, 1) := by decide +kernel
theorem dX0_sameGroup_47 : decode cX0_sameGroup 47 = .ok (.goto 4, 3) := by decide +kernel
theorem dX0_sameGroup_50 : decode cX0_sameGroup 50 = .ok (.iconst 0, 1) := by decide +kernel
theorem dX0_sameGroup_51 : decode cX0_sameGroup 51 = .ok (.ireturn, 1) := by decide +kernel
set_option maxRecDepth 20000 in
theorem ggX0_isFirstOfGroup_X0_sameGroup : GoodIn wsX0_isFirstOfGroup wsX0_sameGroup := goodIn_r _ [5, 6, 7, 8, 9, 10, 4, 11, 12, 13, 14, 15, 16, 17, 18, 19, 20, 21] (by decide +kernel) (by decide +kernel)
set_option maxRecDepth 20000 in
theorem gX0_isFirstOfGroup_X0_sameGroup : GoodIn wsX0_isFirstOfGroup (wsV RX0 74 RX0 yX0_sameGroup wsX0_sameGroup) := goodIn_app (goodIn_of _ (by decide +kernel)) ggX0_isFirstOfGroup_X0_sameGroup
set_option maxRecDepth 20000 in
theorem ggX0_isFirstOfGroup_X0_isInGroup : GoodIn wsX0_isFirstOfGroup wsX0_isInGroup := goodIn_r _ [11, 12, 13, 14, 15, 16, 17, 18, 19, 20, 21] (by decide +kernel) (by decide +kernel)
set_option maxRecDepth 20000 in
theorem gX0_isFirstOfGroup_X0_isInGroup : GoodIn wsX0_isFirstOfGroup (wsV RX0 71 RX0 yX0_isInGroup wsX0_isInGroup) := goodIn_app (goodIn_of _ (by decide +kernel)) ggX0_isFirstOfGroup_X0_isInGroup
theorem dX0_isFirstOfGroup_0 : decode cX0_isFirstOfGroup 0 = .ok (.iconst 0, 1) := by decide +kernel
theorem dX0_isFirstOfGroup_1 : decode cX0_isFirstOfGroup 1 = .ok (.istore_n 2, 1) := by decide +kernel
theorem dX0_isFirstOfGroup_2 : decode cX0_isFirstOfGroup 2 = .ok (.iload_n 2, 1) := by decide +kernel
theorem dX0_isFirstOfGroup_3 : decode cX0_isFirstOfGroup 3 = .ok (.iload_n 1, 1) := by decide +kernel
theorem dX0_isFirstOfGroup_4 : decode cX0_isFirstOfGroup 4 = .ok (.if_icmp .ge 20, 3) := by decide +kernel
theorem dX0_isFirstOfGroup_7 : decode cX0_isFirstOfGroup 7 = .ok (.aload_n 0, 1) := by decide +kernel
theorem dX0_isFirstOfGroup_8 : decode cX0_isFirstOfGroup 8 = .ok (.iload_n 2, 1) := by decide +kernel
theorem dX0_isFirstOfGroup_9 : decode cX0_isFirstOfGroup 9 = .ok (.iload_n 1, 1) := by decide +kernel
theorem dX0_isFirstOfGroup_10 : decode cX0_isFirstOfGroup 10 = .ok (.invokevirtual 74, 3) := by decide +kernel
theorem dX0_isFirstOfGroup_13 : decode cX0_isFirstOfGroup 13 = .ok (.ifCond .eq 5, 3) := by decide +kernel
theorem dX0_isFirstOfGroup_16 : decode cX0_isFirstOfGroup 16 = .ok (.iconst 0, 1) := by decide +kernel
theorem dX0_isFirstOfGroup_17 : decode cX0_isFirstOfGroup 17 = .ok (.ireturn, 1) := by decide +kernel
theorem dX0_isFirstOfGroup_18 : decode cX0_isFirstOfGroup 18 = .ok (.iinc 2 1, 3) := by decide +kernel
theorem dX0_isFirstOfGroup_21 : decode cX0_isFirstOfGroup 21 = .ok (.goto (-19), 3) := by decide +kernel
theorem dX0_isFirstOfGroup_24 : decode cX0_isFirstOfGroup 24 = .ok (.aload_n 0, 1) := by decide +kernel
theorem dX0_isFirstOfGroup_25 : decode cX0_isFirstOfGroup 25 = .ok (.iload_n 1, 1) := by decide +kernel
theorem dX0_isFirstOfGroup_26 : decode cX0_isFirstOfGroup 26 = .ok (.invokevirtual 71, 3) := by decide +kernel
theorem dX0_isFirstOfGroup_29 : decode cX0_isFirstOfGroup 29 = .ok (.ireturn, 1) := by decide +kernel
set_option maxRecDepth 20000 in
theorem ggX0_numberOfGroups_X0_isFirstOfGroup : GoodIn wsX0_numberOfGroups wsX0_isFirstOfGroup := goodIn_r _ [6, 7, 8, 9, 5, 10, 11, 12, 13, 14, 15, 16, 17, 18, 19, 20, 21, 22, 23, 24, 25, 26] (by decide +kernel) (by decide +kernel)
set_option maxRecDepth 20000 in
theorem gX0_numberOfGroups_X0_isFirstOfGroup : GoodIn wsX0_numberOfGroups (wsV RX0 77 RX0 yX0_isFirstOfGroup wsX0_isFirstOfGroup) := goodIn_app (goodIn_of _ (by decide +kernel)) ggX0_numberOfGroups_X0_isFirstOfGroup
theorem dX0_numberOfGroups_0 : decode cX0_numberOfGroups 0 = .ok (.iconst 0, 1) := by decide +kernel
theorem dX0_numberOfGroups_1 : decode cX0_numberOfGroups 1 = .ok (.istore_n 1, 1) := by decide +kernel
theorem dX0_numberOfGroups_2 : decode cX0_numberOfGroups 2 = .ok (.iconst 0, 1) := by decide +kernel
theorem dX0_numberOfGroups_3 : decode cX0_numberOfGroups 3 = .ok (.istore_n 2, 1) := by decide +kernel
theorem dX0_numberOfGroups_4 : decode cX0_numberOfGroups 4 = .ok (.iload_n 2, 1) := by decide +kernel
theorem dX0_numberOfGroups_5 : decode cX0_numberOfGroups 5 = .ok (.aload_n 0, 1) := by decide +kernel
theorem dX0_numberOfGroups_6 : decode cX0_numberOfGroups 6 = .ok (.getfield 36, 3) := by decide +kernel
theorem dX0_numberOfGroups_9 : decode cX0_numberOfGroups 9 = .ok (.if_icmp .ge 20, 3) := by decide +kernel
theorem dX0_numberOfGroups_12 : decode cX0_numberOfGroups 12 = .ok (.aload_n 0, 1) := by decide +kernel
theorem dX0_numberOfGroups_13 : decode cX0_numberOfGroups 13 = .ok (.iload_n 2, 1) := by decide +kernel
theorem dX0_numberOfGroups_14 : decode cX0_numberOfGroups 14 = .ok (.invokevirtual 77, 3) := by decide +kernel
theorem dX0_numberOfGroups_17 : decode cX0_numberOfGroups 17 = .ok (.ifCond .eq 6, 3) := by decide +kernel
theorem dX0_numberOfGroups_20 : decode cX0_numberOfGroups 20 = .ok (.iinc 1 1, 3) := by decide +kernel
theorem dX0_numberOfGroups_23 : decode cX0_numberOfGroups 23 = .ok (.iinc 2 1, 3) := by decide +kernel
theorem dX0_numberOfGroups_26 : decode cX0_numberOfGroups 26 = .ok (.goto (-22), 3) := by decide +kernel
theorem dX0_numberOfGroups_29 : decode cX0_numberOfGroups 29 = .ok (.iload_n 1, 1) := by decide +kernel
theorem dX0_numberOfGroups_30 : decode cX0_numberOfGroups 30 = .ok (.ireturn, 1) := by decide +kernel
set_option maxRecDepth 20000 in
theorem ggX0_firstOfGroup_X0_isFirstOfGroup : GoodIn wsX0_firstOfGroup wsX0_isFirstOfGroup := goodIn_r _ [6, 7, 8, 9, 5, 10, 11, 12, 13, 14, 15, 16, 17, 18, 19, 20, 21, 22, 23, 24, 25, 26] (by decide +kernel) (by decide +kernel)
set_option maxRecDepth 20000 in
theorem gX0_firstOfGroup_X0_isFirstOfGroup : GoodIn wsX0_firstOfGroup (wsV RX0 77 RX0 yX0_isFirstOfGroup wsX0_isFirstOfGroup) := goodIn_app (goodIn_of _ (by decide +kernel)) ggX0_firstOfGroup_X0_isFirstOfGroup
theorem dX0_firstOfGroup_0 : decode cX0_firstOfGroup 0 = .ok (.iconst 0, 1) := by decide +kernel
theorem dX0_firstOfGroup_1 : decode cX0_firstOfGroup 1 = .ok (.istore_n 2, 1) := by decide +kernel
theorem dX0_firstOfGroup_2 : decode cX0_firstOfGroup 2 = .ok (.iconst 0, 1) := by decide +kernel
theorem dX0_firstOfGroup_3 : decode cX0_firstOfGroup 3 = .ok (.istore_n 3, 1) := by decide +kernel
theorem dX0_firstOfGroup_4 : decode cX0_firstOfGroup 4 = .ok (.iload_n 3, 1) := by decide +kernel
theorem dX0_firstOfGroup_5 : decode cX0_firstOfGroup 5 = .ok (.aload_n 0, 1) := by decide +kernel
theorem dX0_firstOfGroup_6 : decode cX0_firstOfGroup 6 = .ok (.getfield 36, 3) := by decide +kernel
theorem dX0_firstOfGroup_9 : decode cX0_firstOfGroup 9 = .ok (.if_icmp .ge 30, 3) := by decide +kernel
theorem dX0_firstOfGroup_12 : decode cX0_firstOfGroup 12 = .ok (.aload_n 0, 1) := by decide +kernel
theorem dX0_firstOfGroup_13 : decode cX0_firstOfGroup 13 = .ok (.iload_n 3, 1) := by decide +kernel
theorem dX0_firstOfGroup_14 : decode cX0_firstOfGroup 14 = .ok (.invokevirtual 77, 3) := by decide +kernel
theorem dX0_firstOfGroup_17 : decode cX0_firstOfGroup 17 = .ok (.ifCond .ne 6, 3) := by decide +kernel
theorem dX0_firstOfGroup_20 : decode cX0_firstOfGroup 20 = .ok (.goto 13, 3) := by decide +kernel
theorem dX0_firstOfGroup_23 : decode cX0_firstOfGroup 23 = .ok (.iload_n 2, 1) := by decide +kernel
theorem dX0_firstOfGroup_24 : decode cX0_firstOfGroup 24 = .ok (.iload_n 1, 1) := by decide +kernel
theorem dX0_firstOfGroup_25 : decode cX0_firstOfGroup 25 = .ok (.if_icmp .ne 5, 3) := by decide +kernel
theorem dX0_firstOfGroup_28 : decode cX0_firstOfGroup 28 = .ok (.iload_n 3, 1) := by decide +kernel
theorem dX0_firstOfGroup_29 : decode cX0_firstOfGroup 29 = .ok (.ireturn, 1) := by decide +kernel
theorem dX0_firstOfGroup_30 : decode cX0_firstOfGroup 30 = .ok (.iinc 2 1, 3) := by decide +kernel
theorem dX0_firstOfGroup_33 : decode cX0_firstOfGroup 33 = .ok (.iinc 3 1, 3) := by decide +kernel
theorem dX0_firstOfGroup_36 : decode cX0_firstOfGroup 36 = .ok (.goto (-32), 3) := by decide +kernel
theorem dX0_firstOfGroup_39 : decode cX0_firstOfGroup 39 = .ok (.bipush (-9), 2) := by decide +kernel
theorem dX0_firstOfGroup_41 : decode cX0_firstOfGroup 41 = .ok (.ireturn, 1) := by decide +kernel
set_option maxRecDepth 20000 in
theorem ggX0_sizeOfGroup_X0_sameGroup : GoodIn wsX0_sizeOfGroup wsX0_sameGroup := goodIn_r _ [6, 7, 8, 9, 10, 11, 5, 12, 13, 14, 15, 16, 17, 18, 19, 20, 21, 22] (by decide +kernel) (by decide +kernel)
set_option maxRecDepth 20000 in
theorem gX0_sizeOfGroup_X0_sameGroup : GoodIn wsX0_sizeOfGroup (wsV RX0 74 RX0 yX0_sameGroup wsX0_sameGroup) := goodIn_app (goodIn_of _ (by decide +kernel)) ggX0_sizeOfGroup_X0_sameGroup
theorem dX0_sizeOfGroup_0 : decode cX0_sizeOfGroup 0 = .ok (.iconst 0, 1) := by decide +kernel
theorem dX0_sizeOfGroup_1 : decode cX0_sizeOfGroup 1 = .ok (.istore_n 2, 1) := by decide +kernel
theorem dX0_sizeOfGroup_2 : decode cX0_sizeOfGroup 2 = .ok (.iconst 0, 1) := by decide +kernel
theorem dX0_sizeOfGroup_3 : decode cX0_sizeOfGroup 3 = .ok (.istore_n 3, 1) := by decide +kernel
theorem dX0_sizeOfGroup_4 : decode cX0_sizeOfGroup 4 = .ok (.iload_n 3, 1) := by decide +kernel
theorem dX0_sizeOfGroup_5 : decode cX0_sizeOfGroup 5 = .ok (.aload_n 0, 1) := by decide +kernel
theorem dX0_sizeOfGroup_6 : decode cX0_sizeOfGroup 6 = .ok (.getfield 36, 3) := by decide +kernel
theorem dX0_sizeOfGroup_9 : decode cX0_sizeOfGroup 9 = .ok (.if_icmp .ge 21, 3) := by decide +kernel
theorem dX0_sizeOfGroup_12 : decode cX0_sizeOfGroup 12 = .ok (.aload_n 0, 1) := by decide +kernel
theorem dX0_sizeOfGroup_13 : decode cX0_sizeOfGroup 13 = .ok (.iload_n 1, 1) := by decide +kernel
theorem dX0_sizeOfGroup_14 : decode cX0_sizeOfGroup 14 = .ok (.iload_n 3, 1) := by decide +kernel
theorem dX0_sizeOfGroup_15 : decode cX0_sizeOfGroup 15 = .ok (.invokevirtual 74, 3) := by decide +kernel
theorem dX0_sizeOfGroup_18 : decode cX0_sizeOfGroup 18 = .ok (.ifCond .eq 6, 3) := by decide +kernel
theorem dX0_sizeOfGroup_21 : decode cX0_sizeOfGroup 21 = .ok (.iinc 2 1, 3) := by decide +kernel
theorem dX0_sizeOfGroup_24 : decode cX0_sizeOfGroup 24 = .ok (.iinc 3 1, 3) := by decide +kernel
theorem dX0_sizeOfGroup_27 : decode cX0_sizeOfGroup 27 = .ok (.goto (-23), 3) := by decide +kernel
theorem dX0_sizeOfGroup_30 : decode cX0_sizeOfGroup 30 = .ok (.iload_n 2, 1) := by decide +kernel
theorem dX0_sizeOfGroup_31 : decode cX0_sizeOfGroup 31 = .ok (.ireturn, 1) := by decide +kernel
end
section
theorem dX1_init_0 : decode cX1_init 0 = .ok (.aload_n 0, 1) := by decide +kernel
theorem dX1_init_1 : decode cX1_init 1 = .ok (.invokespecial 3, 3) := by decide +kernel
theorem dX1_init_4 : decode cX1_init 4 = .ok (.aload_n 0, 1) := by decide +kernel
theorem dX1_init_5 : decode cX1_init 5 = .ok (.iconst 5, 1) := by decide +kernel
theorem dX1_init_6 : decode cX1_init 6 = .ok (.newarray .int, 2) := by decide +kernel
theorem dX1_init_8 : decode cX1_init 8 = .ok (.putfield 9, 3) := by decide +kernel
theorem dX1_init_11 : decode cX1_init 11 = .ok (.aload_n 0, 1) := by decide +kernel
theorem dX1_init_12 : decode cX1_init 12 = .ok (.iconst 5, 1) := by decide +kernel
theorem dX1_init_13 : decode cX1_init 13 = .ok (.newarray .int, 2) := by decide +kernel
theorem dX1_init_15 : decode cX1_init 15 = .ok (.putfield 15, 3) := by decide +kernel
theorem dX1_init_18 : decode cX1_init 18 = .ok (.aload_n 0, 1) := by decide +kernel
theorem dX1_init_19 : decode cX1_init 19 = .ok (.iconst 5, 1) := by decide +kernel
theorem dX1_init_20 : decode cX1_init 20 = .ok (.newarray .int, 2) := by decide +kernel
theorem dX1_init_22 : decode cX1_init 22 = .ok (.putfield 18, 3) := by decide +kernel
theorem dX1_init_25 : decode cX1_init 25 = .ok (.aload_n 0, 1) := by decide +kernel
theorem dX1_init_26 : decode cX1_init 26 = .ok (.iconst 5, 1) := by decide +kernel
theorem dX1_init_27 : decode cX1_init 27 = .ok (.newarray .int, 2) := by decide +kernel
theorem dX1_init_29 : decode cX1_init 29 = .ok (.putfield 21, 3) := by decide +kernel
theorem dX1_init_32 : decode cX1_init 32 = .ok (.aload_n 0, 1) := by decide +kernel
theorem dX1_init_33 : decode cX1_init 33 = .ok (.iconst 5, 1) := by decide +kernel
theorem dX1_init_34 : decode cX1_init 34 = .ok (.newarray .int, 2) := by decide +kernel
theorem dX1_init_36 : decode cX1_init 36 = .ok (.putfield 24, 3) := by decide +kernel
theorem dX1_init_39 : decode cX1_init 39 = .ok (.aload_n 0, 1) := by decide +kernel
theorem dX1_init_40 : decode cX1_init 40 = .ok (.iconst 5, 1) := by decide +kernel
theorem dX1_init_41 : decode cX1_init 41 = .ok (.newarray .int, 2) := by decide +kernel
theorem dX1_init_43 : decode cX1_init 43 = .ok (.putfield 27, 3) := by decide +kernel
theorem dX1_init_46 : decode cX1_init 46 = .ok (.return_, 1) := by decide +kernel
theorem dX1_copyFrom_0 : decode cX1_copyFrom 0 = .ok (.aload_n 0, 1) := by decide +kernel
theorem dX1_copyFrom_1 : decode cX1_copyFrom 1 = .ok (.aload_n 1, 1) := by decide +kernel
theorem dX1_copyFrom_2 : decode cX1_copyFrom 2 = .ok (.getfield 30, 3) := by decide +kernel
theorem dX1_copyFrom_5 : decode cX1_copyFrom 5 = .ok (.putfield 30, 3) := by decide +kernel
theorem dX1_copyFrom_8 : decode cX1_copyFrom 8 = .ok (.aload_n 0, 1) := by decide +kernel
theorem dX1_copyFrom_9 : decode cX1_copyFrom 9 = .ok (.aload_n 1, 1) := by decide +kernel
theorem dX1_copyFrom_10 : decode cX1_copyFrom 10 = .ok (.getfield 34, 3) := by decide +kernel
theorem dX1_copyFrom_13 : decode cX1_copyFrom 13 = .ok (.putfield 34, 3) := by decide +kernel
theorem dX1_copyFrom_16 : decode cX1_copyFrom 16 = .ok (.aload_n 1, 1) := by decide +kernel
theorem dX1_copyFrom_17 : decode cX1_copyFrom 17 = .ok (.getfield 9, 3) := by decide +kernel
theorem dX1_copyFrom_20 : decode cX1_copyFrom 20 = .ok (.iconst 0, 1) := by decide +kernel
theorem dX1_copyFrom_21 : decode cX1_copyFrom 21 = .ok (.aload_n 0, 1) := by decide +kernel
theorem dX1_copyFrom_22 : decode cX1_copyFrom 22 = .ok (.getfield 9, 3) := by decide +kernel
theorem dX1_copyFrom_25 : decode cX1_copyFrom 25 = .ok (.iconst 0, 1) := by decide +kernel
theorem dX1_copyFrom_26 : decode cX1_copyFrom 26 = .ok (.iconst 5, 1) := by decide +kernel
theorem dX1_copyFrom_27 : decode cX1_copyFrom 27 = .ok (.invokestatic 37, 3) := by decide +kernel
theorem dX1_copyFrom_30 : decode cX1_copyFrom 30 = .ok (.aload_n 1, 1) := by decide +kernel
theorem dX1_copyFrom_31 : decode cX1_copyFrom 31 = .ok (.getfield 15, 3) := by decide +kernel
theorem dX1_copyFrom_34 : decode cX1_copyFrom 34 = .ok (.iconst 0, 1) := by decide +kernel
theorem dX1_copyFrom_35 : decode cX1_copyFrom 35 = .ok (.aload_n 0, 1) := by decide +kernel
theorem dX1_copyFrom_36 : decode cX1_copyFrom 36 = .ok (.getfield 15, 3) := by decide +kernel
theorem dX1_copyFrom_39 : decode cX1_copyFrom 39 = .ok (.iconst 0, 1) := by decide +kernel
theorem dX1_copyFrom_40 : decode cX1_copyFrom 40 = .ok (.iconst 5, 1) := by decide +kernel
theorem dX1_copyFrom_41 : decode cX1_copyFrom 41 = .ok (.invokestatic 37, 3) := by decide +kernel
theorem dX1_copyFrom_44 : decode cX1_copyFrom 44 = .ok (.aload_n 1, 1) := by decide +kernel
theorem dX1_copyFrom_45 : decode cX1_copyFrom 45 = .ok (.getfield 18, 3) := by decide +kernel
theorem dX1_copyFrom_48 : decode cX1_copyFrom 48 = .ok (.iconst 0, 1) := by decide +kernel
theorem dX1_copyFrom_49 : decode cX1_copyFrom 49 = .ok (.aload_n 0, 1) := by decide +kernel
theorem dX1_copyFrom_50 : decode cX1_copyFrom 50 = .ok (.getfield 18, 3) := by decide +kernel
theorem dX1_copyFrom_53 : decode cX1_copyFrom 53 = .ok (.iconst 0, 1) := by decide +kernel
theorem dX1_copyFrom_54 : decode cX1_copyFrom 54 = .ok (.iconst 5, 1) := by decide +kernel
theorem dX1_copyFrom_55 : decode cX1_copyFrom 55 = .ok (.invokestatic 37, 3) := by decide +kernel
theorem dX1_copyFrom_58 : decode cX1_copyFrom 58 = .ok (.aload_n 1, 1) := by decide +kernel
theorem dX1_copyFrom_59 : decode cX1_copyFrom 59 = .ok (.getfield 21, 3) := by decide +kernel
theorem dX1_copyFrom_62 : decode cX1_copyFrom 62 = .ok (.iconst 0, 1) := by decide +kernel
theorem dX1_copyFrom_63 : decode cX1_copyFrom 63 = .ok (.aload_n 0, 1) := by decide +kernel
theorem dX1_copyFrom_64 : decode cX1_copyFrom 64 = .ok (.getfield 21, 3) := by decide +kernel
theorem dX1_copyFrom_67 : decode cX1_copyFrom 67 = .ok (.iconst 0, 1) := by decide +kernel
theorem dX1_copyFrom_68 : decode cX1_copyFrom 68 = .ok (.iconst 5, 1) := by decide +kernel
theorem dX1_copyFrom_69 : decode cX1_copyFrom 69 = .ok (.invokestatic 37, 3) := by decide +kernel
theorem dX1_copyFrom_72 : decode cX1_copyFrom 72 = .ok (.aload_n 1, 1) := by decide +kernel
theorem dX1_copyFrom_73 : decode cX1_copyFrom 73 = .ok (.getfield 24, 3) := by decide +kernel
theorem dX1_copyFrom_76 : decode cX1_copyFrom 76 = .ok (.iconst 0, 1) := by decide +kernel
theorem dX1_copyFrom_77 : decode cX1_copyFrom 77 = .ok (.aload_n 0, 1) := by decide +kernel
theorem dX1_copyFrom_78 : decode cX1_copyFrom 78 = .ok (.getfield 24, 3) := by decide +kernel
theorem dX1_copyFrom_81 : decode cX1_copyFrom 81 = .ok (.iconst 0, 1) := by decide +kernel
theorem dX1_copyFrom_82 : decode cX1_copyFrom 82 = .ok (.iconst 5, 1) := by decide +kernel
theorem dX1_copyFrom_83 : decode cX1_copyFrom 83 = .ok (.invokestatic 37, 3) := by decide +kernel
theorem dX1_copyFrom_86 : decode cX1_copyFrom 86 = .ok (.aload_n 1, 1) := by decide +kernel
theorem dX1_copyFrom_87 : decode cX1_copyFrom 87 = .ok (.getfield 27, 3) := by decide +kernel
theorem dX1_copyFrom_90 : decode cX1_copyFrom 90 = .ok (.iconst 0, 1) := by decide +kernel
theorem dX1_copyFrom_91 : decode cX1_copyFrom 91 = .ok (.aload_n 0, 1) := by decide +kernel
theorem dX1_copyFrom_92 : decode cX1_copyFrom 92 = .ok (.getfield 27, 3) := by decide +kernel
theorem dX1_copyFrom_95 : decode cX1_copyFrom 95 = .ok (.iconst 0, 1) := by decide +kernel
theorem dX1_copyFrom_96 : decode cX1_copyFrom 96 = .ok (.iconst 5, 1) := by decide +kernel
theorem dX1_copyFrom_97 : decode cX1_copyFrom 97 = .ok (.invokestatic 37, 3) := by decide +kernel
theorem dX1_copyFrom_100 : decode cX1_copyFrom 100 = .ok (.return_, 1) := by decide +kernel
theorem dX1_has_0 : decode cX1_has 0 = .ok (.iload_n 1, 1) := by decide +kernel
theorem dX1_has_1 : decode cX1_has 1 = .ok (.ifCond .lt 15, 3) := by decide +kernel
theorem dX1_has_4 : decode cX1_has 4 = .ok (.iload_n 1, 1) := by decide +kernel
theorem dX1_has_5 : decode cX1_has 5 = .ok (.aload_n 0, 1) := by decide +kernel
theorem dX1_has_6 : decode cX1_has 6 = .ok (.getfield 30, 3) := by decide +kernel
theorem dX1_has_9 : decode cX1_has 9 = .ok (.if_icmp .ge 7, 3) := by decide +kernel
theorem dX1_has_12 : decode cX1_has 12 = .ok (.iconst 1, 1) := by decide +kernel
theorem dX1_has_13 : decode cX1_has 13 = .ok (.goto 4, 3) := by decide +kernel
theorem dX1_has_16 : decode cX1_has 16 = .ok (.iconst 0, 1) := by decide +kernel
theorem dX1_has_17 : decode cX1_has 17 = .ok (.ireturn, 1) := by decide +kernel
theorem dX1_add_0 : decode cX1_add 0 = .ok (.aload_n 0, 1) := by decide +kernel
theorem dX1_add_1 : decode cX1_add 1 = .ok (.getfield 30, 3) := by decide +kernel
theorem dX1_add_4 : decode cX1_add 4 = .ok (.istore 4, 2) := by decide +kernel
theorem dX1_add_6 : decode cX1_add 6 = .ok (.iload 4, 2) := by decide +kernel
theorem dX1_add_8 : decode cX1_add 8 = .ok (.iconst 5, 1) := by decide +kernel
theorem dX1_add_9 : decode cX1_add 9 = .ok (.if_icmp .lt 6, 3) := by decide +kernel
theorem dX1_add_12 : decode cX1_add 12 = .ok (.bipush (-9), 2) := by decide +kernel
theorem dX1_add_14 : decode cX1_add 14 = .ok (.ireturn, 1) := by decide +kernel
theorem dX1_add_15 : decode cX1_add 15 = .ok (.aload_n 0, 1) := by decide +kernel
theorem dX1_add_16 : decode cX1_add 16 = .ok (.getfield 9, 3) := by decide +kernel
theorem dX1_add_19 : decode cX1_add 19 = .ok (.iload 4, 2) := by decide +kernel
theorem dX1_add_21 : decode cX1_add 21 = .ok (.iload_n 1, 1) := by decide +kernel
theorem dX1_add_22 : decode cX1_add 22 = .ok (.iastore, 1) := by decide +kernel
theorem dX1_add_23 : decode cX1_add 23 = .ok (.aload_n 0, 1) := by decide +kernel
theorem dX1_add_24 : decode cX1_add 24 = .ok (.getfield 15, 3) := by decide +kernel
theorem dX1_add_27 : decode cX1_add 27 = .ok (.iload 4, 2) := by decide +kernel
theorem dX1_add_29 : decode cX1_add 29 = .ok (.iload_n 2, 1) := by decide +kernel
theorem dX1_add_30 : decode cX1_add 30 = .ok (.iastore, 1) := by decide +kernel
theorem dX1_add_31 : decode cX1_add 31 = .ok (.aload_n 0, 1) := by decide +kernel
theorem dX1_add_32 : decode cX1_add 32 = .ok (.getfield 18, 3) := by decide +kernel
theorem dX1_add_35 : decode cX1_add 35 = .ok (.iload 4, 2) := by decide +kernel
theorem dX1_add_37 : decode cX1_add 37 = .ok (.iload_n 3, 1) := by decide +kernel
theorem dX1_add_38 : decode cX1_add 38 = .ok (.iastore, 1) := by decide +kernel
theorem dX1_add_39 : decode cX1_add 39 = .ok (.aload_n 0, 1) := by decide +kernel
theorem dX1_add_40 : decode cX1_add 40 = .ok (.getfield 21, 3) := by decide +kernel
theorem dX1_add_43 : decode cX1_add 43 = .ok (.iload 4, 2) := by decide +kernel
theorem dX1_add_45 : decode cX1_add 45 = .ok (.iload_n 1, 1) := by decide +kernel
theorem dX1_add_46 : decode cX1_add 46 = .ok (.iastore, 1) := by decide +kernel
theorem dX1_add_47 : decode cX1_add 47 = .ok (.aload_n 0, 1) := by decide +kernel
theorem dX1_add_48 : decode cX1_add 48 = .ok (.getfield 24, 3) := by decide +kernel
theorem dX1_add_51 : decode cX1_add 51 = .ok (.iload 4, 2) := by decide +kernel
theorem dX1_add_53 : decode cX1_add 53 = .ok (.iconst 0, 1) := by decide +kernel
theorem dX1_add_54 : decode cX1_add 54 = .ok (.iastore, 1) := by decide +kernel
theorem dX1_add_55 : decode cX1_add 55 = .ok (.aload_n 0, 1) := by decide +kernel
theorem dX1_add_56 : decode cX1_add 56 = .ok (.getfield 27, 3) := by decide +kernel
theorem dX1_add_59 : decode cX1_add 59 = .ok (.iload 4, 2) := by decide +kernel
theorem dX1_add_61 : decode cX1_add 61 = .ok (.iconst 0, 1) := by decide +kernel
theorem dX1_add_62 : decode cX1_add 62 = .ok (.iastore, 1) := by decide +kernel
theorem dX1_add_63 : decode cX1_add 63 = .ok (.aload_n 0, 1) := by decide +kernel
theorem dX1_add_64 : decode cX1_add 64 = .ok (.iload 4, 2) := by decide +kernel
theorem dX1_add_66 : decode cX1_add 66 = .ok (.iconst 1, 1) := by decide +kernel
theorem dX1_add_67 : decode cX1_add 67 = .ok (.iadd, 1) := by decide +kernel
theorem dX1_add_68 : decode cX1_add 68 = .ok (.putfield 30, 3) := by decide +kernel
theorem dX1_add_71 : decode cX1_add 71 = .ok (.iload 4, 2) := by decide +kernel
theorem dX1_add_73 : decode cX1_add 73 = .ok (.ireturn, 1) := by decide +kernel
theorem dX1_serves_0 : decode cX1_serves 0 = .ok (.iload_n 2, 1) := by decide +kernel
theorem dX1_serves_1 : decode cX1_serves 1 = .ok (.aload_n 0, 1) := by decide +kernel
theorem dX1_serves_2 : decode cX1_serves 2 = .ok (.getfield 9, 3) := by decide +kernel
theorem dX1_serves_5 : decode cX1_serves 5 = .ok (.iload_n 1, 1) := by decide +kernel
theorem dX1_serves_6 : decode cX1_serves 6 = .ok (.iaload, 1) := by decide +kernel
theorem dX1_serves_7 : decode cX1_serves 7 = .ok (.if_icmp .lt 17, 3) := by decide +kernel
theorem dX1_serves_10 : decode cX1_serves 10 = .ok (.iload_n 2, 1) := by decide +kernel
theorem dX1_serves_11 : decode cX1_serves 11 = .ok (.aload_n 0, 1) := by decide +kernel
theorem dX1_serves_12 : decode cX1_serves 12 = .ok (.getfield 15, 3) := by decide +kernel
theorem dX1_serves_15 : decode cX1_serves 15 = .ok (.iload_n 1, 1) := by decide +kernel
theorem dX1_serves_16 : decode cX1_serves 16 = .ok (.iaload, 1) := by decide +kernel
theorem dX1_serves_17 : decode cX1_serves 17 = .ok (.if_icmp .gt 7, 3) := by decide +kernel
theorem dX1_serves_20 : decode cX1_serves 20 = .ok (.iconst 1, 1) := by decide +kernel
theorem dX1_serves_21 : decode cX1_serves 21 = .ok (.goto 4, 3) := by decide +kernel
theorem dX1_serves_24 : decode cX1_serves 24 = .ok (.iconst 0, 1) := by decide +kernel
theorem dX1_serves_25 : decode cX1_serves 25 = .ok (.ireturn, 1) := by decide +kernel
theorem dX1_travelTowards_0 : decode cX1_travelTowards 0 = .ok (.aload_n 0, 1) := by decide +kernel
theorem dX1_travelTowards_1 : decode cX1_travelTowards 1 = .ok (.getfield 21, 3) := by decide +kernel
theorem dX1_travelTowards_4 : decode cX1_travelTowards 4 = .ok (.iload_n 1, 1) := by decide +kernel
theorem dX1_travelTowards_5 : decode cX1_travelTowards 5 = .ok (.dup2, 1) := by decide +kernel
theorem dX1_travelTowards_6 : decode cX1_travelTowards 6 = .ok (.iaload, 1) := by decide +kernel
theorem dX1_travelTowards_7 : decode cX1_travelTowards 7 = .ok (.iload_n 2, 1) := by decide +kernel
theorem dX1_travelTowards_8 : decode cX1_travelTowards 8 = .ok (.aload_n 0, 1) := by decide +kernel
theorem dX1_travelTowards_9 : decode cX1_travelTowards 9 = .ok (.getfield 21, 3) := by decide +kernel
theorem dX1_travelTowards_12 : decode cX1_travelTowards 12 = .ok (.iload_n 1, 1) := by decide +kernel
theorem dX1_travelTowards_13 : decode cX1_travelTowards 13 = .ok (.iaload, 1) := by decide +kernel
theorem dX1_travelTowards_14 : decode cX1_travelTowards 14 = .ok (.if_icmp .le 7, 3) := by decide +kernel
theorem dX1_travelTowards_17 : decode cX1_travelTowards 17 = .ok (.iconst 1, 1) := by decide +kernel
theorem dX1_travelTowards_18 : decode cX1_travelTowards 18 = .ok (.goto 4, 3) := by decide +kernel
theorem dX1_travelTowards_21 : decode cX1_travelTowards 21 = .ok (.iconst (-1), 1) := by decide +kernel
theorem dX1_travelTowards_22 : decode cX1_travelTowards 22 = .ok (.iadd, 1) := by decide +kernel
theorem dX1_travelTowards_23 : decode cX1_travelTowards 23 = .ok (.iastore, 1) := by decide +kernel
theorem dX1_travelTowards_24 : decode cX1_travelTowards 24 = .ok (.aload_n 0, 1) := by decide +kernel
theorem dX1_travelTowards_25 : decode cX1_travelTowards 25 = .ok (.getfield 27, 3) := by decide +kernel
theorem dX1_travelTowards_28 : decode cX1_travelTowards 28 = .ok (.iload_n 1, 1) := by decide +kernel
theorem dX1_travelTowards_29 : decode cX1_travelTowards 29 = .ok (.dup2, 1) := by decide +kernel
theorem dX1_travelTowards_30 : decode cX1_travelTowards 30 = .ok (.iaload, 1) := by decide +kernel
theorem dX1_travelTowards_31 : decode cX1_travelTowards 31 = .ok (.iconst 1, 1) := by decide +kernel
theorem dX1_travelTowards_32 : decode cX1_travelTowards 32 = .ok (.iadd, 1) := by decide +kernel
theorem dX1_travelTowards_33 : decode cX1_travelTowards 33 = .ok (.iastore, 1) := by decide +kernel
theorem dX1_travelTowards_34 : decode cX1_travelTowards 34 = .ok (.return_, 1) := by decide +kernel
theorem dX1_numberIn_0 : decode cX1_numberIn 0 = .ok (.iconst 0, 1) := by decide +kernel
theorem dX1_numberIn_1 : decode cX1_numberIn 1 = .ok (.istore_n 2, 1) := by decide +kernel
theorem dX1_numberIn_2 : decode cX1_numberIn 2 = .ok (.iconst 0, 1) := by decide +kernel
theorem dX1_numberIn_3 : decode cX1_numberIn 3 = .ok (.istore_n 3, 1) := by decide +kernel
theorem dX1_numberIn_4 : decode cX1_numberIn 4 = .ok (.iload_n 3, 1) := by decide +kernel
theorem dX1_numberIn_5 : decode cX1_numberIn 5 = .ok (.aload_n 0, 1) := by decide +kernel
theorem dX1_numberIn_6 : decode cX1_numberIn 6 = .ok (.getfield 30, 3) := by decide +kernel
theorem dX1_numberIn_9 : decode cX1_numberIn 9 = .ok (.if_icmp .ge 22, 3) := by decide +kernel
theorem dX1_numberIn_12 : decode cX1_numberIn 12 = .ok (.aload_n 0, 1) := by decide +kernel
theorem dX1_numberIn_13 : decode cX1_numberIn 13 = .ok (.getfield 24, 3) := by decide +kernel
theorem dX1_numberIn_16 : decode cX1_numberIn 16 = .ok (.iload_n 3, 1) := by decide +kernel
theorem dX1_numberIn_17 : decode cX1_numberIn 17 = .ok (.iaload, 1) := by decide +kernel
theorem dX1_numberIn_18 : decode cX1_numberIn 18 = .ok (.iload_n 1, 1) := by decide +kernel
theorem dX1_numberIn_19 : decode cX1_numberIn 19 = .ok (.if_icmp .ne 6, 3) := by decide +kernel
theorem dX1_numberIn_22 : decode cX1_numberIn 22 = .ok (.iinc 2 1, 3) := by decide +kernel
theorem dX1_numberIn_25 : decode cX1_numberIn 25 = .ok (.iinc 3 1, 3) := by decide +kernel
theorem dX1_numberIn_28 : decode cX1_numberIn 28 = .ok (.goto (-24), 3) := by decide +kernel
theorem dX1_numberIn_31 : decode cX1_numberIn 31 = .ok (.iload_n 2, 1) := by decide +kernel
theorem dX1_numberIn_32 : decode cX1_numberIn 32 = .ok (.ireturn, 1) := by decide +kernel
theorem dX1_travelledByAll_0 : decode cX1_travelledByAll 0 = .ok (.iconst 0, 1) := by decide +kernel
theorem dX1_travelledByAll_1 : decode cX1_travelledByAll 1 = .ok (.istore_n 1, 1) := by decide +kernel
theorem dX1_travelledByAll_2 : decode cX1_travelledByAll 2 = .ok (.iconst 0, 1) := by decide +kernel
theorem dX1_travelledByAll_3 : decode cX1_travelledByAll 3 = .ok (.istore_n 2, 1) := by decide +kernel
theorem dX1_travelledByAll_4 : decode cX1_travelledByAll 4 = .ok (.iload_n 2, 1) := by decide +kernel
theorem dX1_travelledByAll_5 : decode cX1_travelledByAll 5 = .ok (.aload_n 0, 1) := by decide +kernel
theorem dX1_travelledByAll_6 : decode cX1_travelledByAll 6 = .ok (.getfield 30, 3) := by decide +kernel
theorem dX1_travelledByAll_9 : decode cX1_travelledByAll 9 = .ok (.if_icmp .ge 18, 3) := by decide +kernel
theorem dX1_travelledByAll_12 : decode cX1_travelledByAll 12 = .ok (.iload_n 1, 1) := by decide +kernel
theorem dX1_travelledByAll_13 : decode cX1_travelledByAll 13 = .ok (.aload_n 0, 1) := by decide +kernel
theorem dX1_travelledByAll_14 : decode cX1_travelledByAll 14 = .ok (.getfield 27, 3) := by decide +kernel
theorem dX1_travelledByAll_17 : decode cX1_travelledByAll 17 = .ok (.iload_n 2, 1) := by decide +kernel
theorem dX1_travelledByAll_18 : decode cX1_travelledByAll 18 = .ok (.iaload, 1) := by decide +kernel
theorem dX1_travelledByAll_19 : decode cX1_travelledByAll 19 = .ok (.iadd, 1) := by decide +kernel
theorem dX1_travelledByAll_20 : decode cX1_travelledByAll 20 = .ok (.istore_n 1, 1) := by decide +kernel
theorem dX1_travelledByAll_21 : decode cX1_travelledByAll 21 = .ok (.iinc 2 1, 3) := by decide +kernel
theorem dX1_travelledByAll_24 : decode cX1_travelledByAll 24 = .ok (.goto (-20), 3) := by decide +kernel
theorem dX1_travelledByAll_27 : decode cX1_travelledByAll 27 = .ok (.iload_n 1, 1) := by decide +kernel
theorem dX1_travelledByAll_28 : decode cX1_travelledByAll 28 = .ok (.ireturn, 1) := by decide +kernel
set_option maxRecDepth 20000 in
theorem ggX2_init_X3_init : GoodIn wsX2_init wsX3_init := goodIn_r _ [10, 11, 2, 3, 12, 13, 14, 15, 16, 17, 18, 19, 20, 21, 22, 23, 24, 25, 26, 27, 28, 29, 30, 31, 32, 33, 34, 35, 36, 37, 38, 39, 40, 41, 45, 46, 47, 48, 49, 50, 51, 52, 53, 54, 55, 56, 57, 58, 59, 60, 61, 62, 63, 64, 65] (by decide +kernel) (by decide +kernel)
set_option maxRecDepth 20000 in
theorem gX2_init_X3_init : GoodIn wsX2_init (wsX3_init) := ggX2_init_X3_init
theorem dX2_init_0 : decode cX2_init 0 = .ok (.aload_n 0, 1) := by decide +kernel
theorem dX2_init_1 : decode cX2_init 1 = .ok (.invokespecial 3, 3) := by decide +kernel
theorem dX2_init_4 : decode cX2_init 4 = .ok (.aload_n 0, 1) := by decide +kernel
theorem dX2_init_5 : decode cX2_init 5 = .ok (.iconst 5, 1) := by decide +kernel
theorem dX2_init_6 : decode cX2_init 6 = .ok (.anewarray 9, 3) := by decide +kernel
theorem dX2_init_9 : decode cX2_init 9 = .ok (.putfield 11, 3) := by decide +kernel
theorem dX2_init_12 : decode cX2_init 12 = .ok (.iconst 0, 1) := by decide +kernel
theorem dX2_init_13 : decode cX2_init 13 = .ok (.istore_n 1, 1) := by decide +kernel
theorem dX2_init_14 : decode cX2_init 14 = .ok (.iload_n 1, 1) := by decide +kernel
theorem dX2_init_15 : decode cX2_init 15 = .ok (.iconst 5, 1) := by decide +kernel
theorem dX2_init_16 : decode cX2_init 16 = .ok (.if_icmp .ge 22, 3) := by decide +kernel
theorem dX2_init_19 : decode cX2_init 19 = .ok (.aload_n 0, 1) := by decide +kernel
theorem dX2_init_20 : decode cX2_init 20 = .ok (.getfield 11, 3) := by decide +kernel
theorem dX2_init_23 : decode cX2_init 23 = .ok (.iload_n 1, 1) := by decide +kernel
theorem dX2_init_24 : decode cX2_init 24 = .ok (.new 9, 3) := by decide +kernel
theorem dX2_init_27 : decode cX2_init 27 = .ok (.dup, 1) := by decide +kernel
theorem dX2_init_28 : decode cX2_init 28 = .ok (.invokespecial 17, 3) := by decide +kernel
theorem dX2_init_31 : decode cX2_init 31 = .ok (.aastore, 1) := by decide +kernel
theorem dX2_init_32 : decode cX2_init 32 = .ok (.iinc 1 1, 3) := by decide +kernel
theorem dX2_init_35 : decode cX2_init 35 = .ok (.goto (-21), 3) := by decide +kernel
theorem dX2_init_38 : decode cX2_init 38 = .ok (.return_, 1) := by decide +kernel
set_option maxRecDepth 20000 in
theorem ggX2_keep_X3_copyFrom : GoodIn wsX2_keep wsX3_copyFrom := goodIn_r _ [12, 13, 14, 15, 16, 17, 18, 19, 20, 21, 22, 23, 24, 25, 26, 27, 28, 29, 30, 31, 32, 33, 34, 35, 36, 37, 38, 39, 40, 41, 42, 43, 44, 45, 46, 47, 48, 49, 57, 58, 59, 60, 61, 62, 63, 64, 65, 66, 67, 68, 69, 70, 71, 72, 73, 74, 75, 76, 77] (by decide +kernel) (by decide +kernel)
set_option maxRecDepth 20000 in
theorem gX2_keep_X3_copyFrom : GoodIn wsX2_keep (wsV RX2 22 RX3 yX3_copyFrom wsX3_copyFrom) := goodIn_app (goodIn_of _ (by decide +kernel)) ggX2_keep_X3_copyFrom
set_option maxRecDepth 20000 in
theorem ggX2_keep_J9_floorMod_7cf53 : GoodIn wsX2_keep wsJ9_floorMod_7cf53 := goodIn_r _ [53] (by decide +kernel) (by decide +kernel)
set_option maxRecDepth 20000 in
theorem gX2_keep_J9_floorMod_7cf53 : GoodIn wsX2_keep (va_wsS RX2 26 yJ9_floorMod_7cf53 wsJ9_floorMod_7cf53) := goodIn_app (goodIn_of _ (by decide +kernel)) ggX2_keep_J9_floorMod_7cf53
theorem dX2_keep_0 : decode cX2_keep 0 = .ok (.aload_n 0, 1) := by decide +kernel
theorem dX2_keep_1 : decode cX2_keep 1 = .ok (.getfield 11, 3) := by decide +kernel
theorem dX2_keep_4 : decode cX2_keep 4 = .ok (.aload_n 0, 1) := by decide +kernel
theorem dX2_keep_5 : decode cX2_keep 5 = .ok (.getfield 18, 3) := by decide +kernel
theorem dX2_keep_8 : decode cX2_keep 8 = .ok (.aaload, 1) := by decide +kernel
theorem dX2_keep_9 : decode cX2_keep 9 = .ok (.astore_n 2, 1) := by decide +kernel
theorem dX2_keep_10 : decode cX2_keep 10 = .ok (.aload_n 2, 1) := by decide +kernel
theorem dX2_keep_11 : decode cX2_keep 11 = .ok (.ifnonnull 4, 3) := by decide +kernel
theorem dX2_keep_14 : decode cX2_keep 14 = .ok (.return_, 1) := by decide +kernel
theorem dX2_keep_15 : decode cX2_keep 15 = .ok (.aload_n 2, 1) := by decide +kernel
theorem dX2_keep_16 : decode cX2_keep 16 = .ok (.aload_n 1, 1) := by decide +kernel
theorem dX2_keep_17 : decode cX2_keep 17 = .ok (.invokevirtual 22, 3) := by decide +kernel
theorem dX2_keep_20 : decode cX2_keep 20 = .ok (.aload_n 0, 1) := by decide +kernel
theorem dX2_keep_21 : decode cX2_keep 21 = .ok (.aload_n 0, 1) := by decide +kernel
theorem dX2_keep_22 : decode cX2_keep 22 = .ok (.getfield 18, 3) := by decide +kernel
theorem dX2_keep_25 : decode cX2_keep 25 = .ok (.iconst 1, 1) := by decide +kernel
theorem dX2_keep_26 : decode cX2_keep 26 = .ok (.iadd, 1) := by decide +kernel
theorem dX2_keep_27 : decode cX2_keep 27 = .ok (.iconst 5, 1) := by decide +kernel
theorem dX2_keep_28 : decode cX2_keep 28 = .ok (.invokestatic 26, 3) := by decide +kernel
theorem dX2_keep_31 : decode cX2_keep 31 = .ok (.putfield 18, 3) := by decide +kernel
theorem dX2_keep_34 : decode cX2_keep 34 = .ok (.aload_n 0, 1) := by decide +kernel
theorem dX2_keep_35 : decode cX2_keep 35 = .ok (.aload_n 0, 1) := by decide +kernel
theorem dX2_keep_36 : decode cX2_keep 36 = .ok (.getfield 32, 3) := by decide +kernel
theorem dX2_keep_39 : decode cX2_keep 39 = .ok (.iconst 1, 1) := by decide +kernel
theorem dX2_keep_40 : decode cX2_keep 40 = .ok (.iadd, 1) := by decide +kernel
theorem dX2_keep_41 : decode cX2_keep 41 = .ok (.iconst 5, 1) := by decide +kernel
theorem dX2_keep_42 : decode cX2_keep 42 = .ok (.invokestatic 35, 3) := by decide +kernel
theorem dX2_keep_45 : decode cX2_keep 45 = .ok (.putfield 32, 3) := by decide +kernel
theorem dX2_keep_48 : decode cX2_keep 48 = .ok (.return_, 1) := by decide +kernel
set_option maxRecDepth 20000 in
theorem ggX2_restore_J9_floorMod_7cf53 : GoodIn wsX2_restore wsJ9_floorMod_7cf53 := goodIn_r _ [7] (by decide +kernel) (by decide +kernel)
set_option maxRecDepth 20000 in
theorem gX2_restore_J9_floorMod_7cf53 : GoodIn wsX2_restore (va_wsS RX2 26 yJ9_floorMod_7cf53 wsJ9_floorMod_7cf53) := goodIn_app (goodIn_of _ (by decide +kernel)) ggX2_restore_J9_floorMod_7cf53
set_option maxRecDepth 20000 in
theorem ggX2_restore_X3_copyFrom : GoodIn wsX2_restore wsX3_copyFrom := goodIn_r _ [12, 13, 14, 15, 16, 17, 18, 19, 20, 21, 22, 23, 24, 25, 26, 27, 28, 29, 30, 31, 32, 33, 34, 35, 36, 37, 38, 39, 40, 41, 42, 43, 44, 45, 46, 47, 48, 49, 53, 54, 55, 56, 57, 58, 59, 60, 61, 62, 63, 64, 65, 66, 67, 68, 69, 70, 71, 72, 73] (by decide +kernel) (by decide +kernel)
set_option maxRecDepth 20000 in
theorem gX2_restore_X3_copyFrom : GoodIn wsX2_restore (wsV RX2 22 RX3 yX3_copyFrom wsX3_copyFrom) := goodIn_app (goodIn_of _ (by decide +kernel)) ggX2_restore_X3_copyFrom
theorem dX2_restore_0 : decode cX2_restore 0 = .ok (.aload_n 0, 1) := by decide +kernel
theorem dX2_restore_1 : decode cX2_restore 1 = .ok (.getfield 18, 3) := by decide +kernel
theorem dX2_restore_4 : decode cX2_restore 4 = .ok (.iconst 1, 1) := by decide +kernel
theorem dX2_restore_5 : decode cX2_restore 5 = .ok (.isub, 1) := by decide +kernel
theorem dX2_restore_6 : decode cX2_restore 6 = .ok (.iconst 5, 1) := by decide +kernel
theorem dX2_restore_7 : decode cX2_restore 7 = .ok (.invokestatic 26, 3) := by decide +kernel
theorem dX2_restore_10 : decode cX2_restore 10 = .ok (.istore_n 2, 1) := by decide +kernel
theorem dX2_restore_11 : decode cX2_restore 11 = .ok (.aload_n 0, 1) := by decide +kernel
theorem dX2_restore_12 : decode cX2_restore 12 = .ok (.getfield 11, 3) := by decide +kernel
theorem dX2_restore_15 : decode cX2_restore 15 = .ok (.iload_n 2, 1) := by decide +kernel
theorem dX2_restore_16 : decode cX2_restore 16 = .ok (.aaload, 1) := by decide +kernel
theorem dX2_restore_17 : decode cX2_restore 17 = .ok (.astore_n 3, 1) := by decide +kernel
theorem dX2_restore_18 : decode cX2_restore 18 = .ok (.aload_n 3, 1) := by decide +kernel
theorem dX2_restore_19 : decode cX2_restore 19 = .ok (.ifnull 11, 3) := by decide +kernel
theorem dX2_restore_22 : decode cX2_restore 22 = .ok (.aload_n 0, 1) := by decide +kernel
theorem dX2_restore_23 : decode cX2_restore 23 = .ok (.getfield 32, 3) := by decide +kernel
theorem dX2_restore_26 : decode cX2_restore 26 = .ok (.iconst 1, 1) := by decide +kernel
theorem dX2_restore_27 : decode cX2_restore 27 = .ok (.if_icmp .ge 4, 3) := by decide +kernel
theorem dX2_restore_30 : decode cX2_restore 30 = .ok (.return_, 1) := by decide +kernel
theorem dX2_restore_31 : decode cX2_restore 31 = .ok (.aload_n 1, 1) := by decide +kernel
theorem dX2_restore_32 : decode cX2_restore 32 = .ok (.aload_n 3, 1) := by decide +kernel
theorem dX2_restore_33 : decode cX2_restore 33 = .ok (.invokevirtual 22, 3) := by decide +kernel
theorem dX2_restore_36 : decode cX2_restore 36 = .ok (.aload_n 0, 1) := by decide +kernel
theorem dX2_restore_37 : decode cX2_restore 37 = .ok (.iload_n 2, 1) := by decide +kernel
theorem dX2_restore_38 : decode cX2_restore 38 = .ok (.putfield 18, 3) := by decide +kernel
theorem dX2_restore_41 : decode cX2_restore 41 = .ok (.aload_n 0, 1) := by decide +kernel
theorem dX2_restore_42 : decode cX2_restore 42 = .ok (.dup, 1) := by decide +kernel
theorem dX2_restore_43 : decode cX2_restore 43 = .ok (.getfield 32, 3) := by decide +kernel
theorem dX2_restore_46 : decode cX2_restore 46 = .ok (.iconst 1, 1) := by decide +kernel
theorem dX2_restore_47 : decode cX2_restore 47 = .ok (.isub, 1) := by decide +kernel
theorem dX2_restore_48 : decode cX2_restore 48 = .ok (.putfield 32, 3) := by decide +kernel
theorem dX2_restore_51 : decode cX2_restore 51 = .ok (.return_, 1) := by decide +kernel
set_option maxRecDepth 20000 in
theorem ggX3_init_X1_init : GoodIn wsX3_init wsX1_init := goodIn_r _ [15, 16, 2, 3, 4, 17, 18, 19, 20, 21, 22, 38, 39, 40, 41, 42, 43, 44, 45] (by decide +kernel) (by decide +kernel)
set_option maxRecDepth 20000 in
theorem gX3_init_X1_init_n17 : GoodIn wsX3_init (wsX1_init) := ggX3_init_X1_init
set_option maxRecDepth 20000 in
theorem ggX3_init_X0_init : GoodIn wsX3_init wsX0_init := goodIn_r _ [24, 25, 2, 3, 4, 26, 27, 28, 29, 30, 31, 32, 33, 46, 47, 48, 49, 50, 51, 52, 53, 54] (by decide +kernel) (by decide +kernel)
set_option maxRecDepth 20000 in
theorem gX3_init_X0_init_n24 : GoodIn wsX3_init (wsX0_init) := ggX3_init_X0_init
theorem dX3_init_0 : decode cX3_init 0 = .ok (.aload_n 0, 1) := by decide +kernel
theorem dX3_init_1 : decode cX3_init 1 = .ok (.invokespecial 3, 3) := by decide +kernel
theorem dX3_init_4 : decode cX3_init 4 = .ok (.aload_n 0, 1) := by decide +kernel
theorem dX3_init_5 : decode cX3_init 5 = .ok (.bipush 24, 2) := by decide +kernel
theorem dX3_init_7 : decode cX3_init 7 = .ok (.newarray .int, 2) := by decide +kernel
theorem dX3_init_9 : decode cX3_init 9 = .ok (.putfield 9, 3) := by decide +kernel
theorem dX3_init_12 : decode cX3_init 12 = .ok (.aload_n 0, 1) := by decide +kernel
theorem dX3_init_13 : decode cX3_init 13 = .ok (.new 15, 3) := by decide +kernel
theorem dX3_init_16 : decode cX3_init 16 = .ok (.dup, 1) := by decide +kernel
theorem dX3_init_17 : decode cX3_init 17 = .ok (.invokespecial 17, 3) := by decide +kernel
theorem dX3_init_20 : decode cX3_init 20 = .ok (.putfield 18, 3) := by decide +kernel
theorem dX3_init_23 : decode cX3_init 23 = .ok (.aload_n 0, 1) := by decide +kernel
theorem dX3_init_24 : decode cX3_init 24 = .ok (.new 22, 3) := by decide +kernel
theorem dX3_init_27 : decode cX3_init 27 = .ok (.dup, 1) := by decide +kernel
theorem dX3_init_28 : decode cX3_init 28 = .ok (.invokespecial 24, 3) := by decide +kernel
theorem dX3_init_31 : decode cX3_init 31 = .ok (.putfield 25, 3) := by decide +kernel
theorem dX3_init_34 : decode cX3_init 34 = .ok (.iconst 0, 1) := by decide +kernel
theorem dX3_init_35 : decode cX3_init 35 = .ok (.istore_n 1, 1) := by decide +kernel
theorem dX3_init_36 : decode cX3_init 36 = .ok (.iload_n 1, 1) := by decide +kernel
theorem dX3_init_37 : decode cX3_init 37 = .ok (.bipush 24, 2) := by decide +kernel
theorem dX3_init_39 : decode cX3_init 39 = .ok (.if_icmp .ge 16, 3) := by decide +kernel
theorem dX3_init_42 : decode cX3_init 42 = .ok (.aload_n 0, 1) := by decide +kernel
theorem dX3_init_43 : decode cX3_init 43 = .ok (.getfield 9, 3) := by decide +kernel
theorem dX3_init_46 : decode cX3_init 46 = .ok (.iload_n 1, 1) := by decide +kernel
theorem dX3_init_47 : decode cX3_init 47 = .ok (.iconst 5, 1) := by decide +kernel
theorem dX3_init_48 : decode cX3_init 48 = .ok (.iastore, 1) := by decide +kernel
theorem dX3_init_49 : decode cX3_init 49 = .ok (.iinc 1 1, 3) := by decide +kernel
theorem dX3_init_52 : decode cX3_init 52 = .ok (.goto (-16), 3) := by decide +kernel
theorem dX3_init_55 : decode cX3_init 55 = .ok (.return_, 1) := by decide +kernel
set_option maxRecDepth 20000 in
theorem ggX3_copyFrom_X1_copyFrom : GoodIn wsX3_copyFrom wsX1_copyFrom := goodIn_r _ [13, 14, 15, 16, 17, 4, 5, 6, 18, 19, 20, 21, 22, 42, 43, 44, 45, 46, 47, 48, 49] (by decide +kernel) (by decide +kernel)
set_option maxRecDepth 20000 in
theorem gX3_copyFrom_X1_copyFrom : GoodIn wsX3_copyFrom (wsV RX3 39 RX1 yX1_copyFrom wsX1_copyFrom) := goodIn_app (goodIn_of _ (by decide +kernel)) ggX3_copyFrom_X1_copyFrom
set_option maxRecDepth 20000 in
theorem ggX3_copyFrom_X0_copyFrom : GoodIn wsX3_copyFrom wsX0_copyFrom := goodIn_r _ [27, 28, 29, 30, 4, 5, 6, 31, 32, 33, 34, 35, 36, 37, 50, 51, 52, 53, 54, 55, 56, 57, 58] (by decide +kernel) (by decide +kernel)
set_option maxRecDepth 20000 in
theorem gX3_copyFrom_X0_copyFrom : GoodIn wsX3_copyFrom (wsV RX3 43 RX0 yX0_copyFrom wsX0_copyFrom) := goodIn_app (goodIn_of _ (by decide +kernel)) ggX3_copyFrom_X0_copyFrom
theorem dX3_copyFrom_0 : decode cX3_copyFrom 0 = .ok (.aload_n 0, 1) := by decide +kernel
theorem dX3_copyFrom_1 : decode cX3_copyFrom 1 = .ok (.aload_n 1, 1) := by decide +kernel
theorem dX3_copyFrom_2 : decode cX3_copyFrom 2 = .ok (.getfield 29, 3) := by decide +kernel
theorem dX3_copyFrom_5 : decode cX3_copyFrom 5 = .ok (.putfield 29, 3) := by decide +kernel
theorem dX3_copyFrom_8 : decode cX3_copyFrom 8 = .ok (.aload_n 1, 1) := by decide +kernel
theorem dX3_copyFrom_9 : decode cX3_copyFrom 9 = .ok (.getfield 9, 3) := by decide +kernel
theorem dX3_copyFrom_12 : decode cX3_copyFrom 12 = .ok (.iconst 0, 1) := by decide +kernel
theorem dX3_copyFrom_13 : decode cX3_copyFrom 13 = .ok (.aload_n 0, 1) := by decide +kernel
theorem dX3_copyFrom_14 : decode cX3_copyFrom 14 = .ok (.getfield 9, 3) := by decide +kernel
theorem dX3_copyFrom_17 : decode cX3_copyFrom 17 = .ok (.iconst 0, 1) := by decide +kernel
theorem dX3_copyFrom_18 : decode cX3_copyFrom 18 = .ok (.bipush 24, 2) := by decide +kernel
theorem dX3_copyFrom_20 : decode cX3_copyFrom 20 = .ok (.invokestatic 33, 3) := by decide +kernel
theorem dX3_copyFrom_23 : decode cX3_copyFrom 23 = .ok (.aload_n 0, 1) := by decide +kernel
theorem dX3_copyFrom_24 : decode cX3_copyFrom 24 = .ok (.getfield 18, 3) := by decide +kernel
theorem dX3_copyFrom_27 : decode cX3_copyFrom 27 = .ok (.aload_n 1, 1) := by decide +kernel
theorem dX3_copyFrom_28 : decode cX3_copyFrom 28 = .ok (.getfield 18, 3) := by decide +kernel
theorem dX3_copyFrom_31 : decode cX3_copyFrom 31 = .ok (.invokevirtual 39, 3) := by decide +kernel
theorem dX3_copyFrom_34 : decode cX3_copyFrom 34 = .ok (.aload_n 0, 1) := by decide +kernel
theorem dX3_copyFrom_35 : decode cX3_copyFrom 35 = .ok (.getfield 25, 3) := by decide +kernel
theorem dX3_copyFrom_38 : decode cX3_copyFrom 38 = .ok (.aload_n 1, 1) := by decide +kernel
theorem dX3_copyFrom_39 : decode cX3_copyFrom 39 = .ok (.getfield 25, 3) := by decide +kernel
theorem dX3_copyFrom_42 : decode cX3_copyFrom 42 = .ok (.invokevirtual 43, 3) := by decide +kernel
theorem dX3_copyFrom_45 : decode cX3_copyFrom 45 = .ok (.return_, 1) := by decide +kernel
set_option maxRecDepth 20000 in
theorem ggX3_hour_J9_floorMod_7cf53 : GoodIn wsX3_hour wsJ9_floorMod_7cf53 := goodIn_r _ [5] (by decide +kernel) (by decide +kernel)
set_option maxRecDepth 20000 in
theorem gX3_hour_J9_floorMod_7cf53 : GoodIn wsX3_hour (va_wsS RX3 46 yJ9_floorMod_7cf53 wsJ9_floorMod_7cf53) := goodIn_app (goodIn_of _ (by decide +kernel)) ggX3_hour_J9_floorMod_7cf53
theorem dX3_hour_0 : decode cX3_hour 0 = .ok (.aload_n 0, 1) := by decide +kernel
theorem dX3_hour_1 : decode cX3_hour 1 = .ok (.getfield 29, 3) := by decide +kernel
theorem dX3_hour_4 : decode cX3_hour 4 = .ok (.bipush 60, 2) := by decide +kernel
theorem dX3_hour_6 : decode cX3_hour 6 = .ok (.idiv, 1) := by decide +kernel
theorem dX3_hour_7 : decode cX3_hour 7 = .ok (.bipush 24, 2) := by decide +kernel
theorem dX3_hour_9 : decode cX3_hour 9 = .ok (.invokestatic 46, 3) := by decide +kernel
theorem dX3_hour_12 : decode cX3_hour 12 = .ok (.ireturn, 1) := by decide +kernel
set_option maxRecDepth 20000 in
theorem ggX3_isAwake_X3_hour : GoodIn wsX3_isAwake wsX3_hour := goodIn_r _ [6, 7, 8, 9, 10, 11, 12, 13, 14, 15] (by decide +kernel) (by decide +kernel)
set_option maxRecDepth 20000 in
theorem gX3_isAwake_X3_hour : GoodIn wsX3_isAwake (wsV RX3 52 RX3 yX3_hour wsX3_hour) := goodIn_app (goodIn_of _ (by decide +kernel)) ggX3_isAwake_X3_hour
theorem dX3_isAwake_0 : decode cX3_isAwake 0 = .ok (.iload_n 1, 1) := by decide +kernel
theorem dX3_isAwake_1 : decode cX3_isAwake 1 = .ok (.aload_n 0, 1) := by decide +kernel
theorem dX3_isAwake_2 : decode cX3_isAwake 2 = .ok (.getfield 9, 3) := by decide +kernel
theorem dX3_isAwake_5 : decode cX3_isAwake 5 = .ok (.aload_n 0, 1) := by decide +kernel
theorem dX3_isAwake_6 : decode cX3_isAwake 6 = .ok (.invokevirtual 52, 3) := by decide +kernel
theorem dX3_isAwake_9 : decode cX3_isAwake 9 = .ok (.iaload, 1) := by decide +kernel
theorem dX3_isAwake_10 : decode cX3_isAwake 10 = .ok (.if_icmp .ge 7, 3) := by decide +kernel
theorem dX3_isAwake_13 : decode cX3_isAwake 13 = .ok (.iconst 1, 1) := by decide +kernel
theorem dX3_isAwake_14 : decode cX3_isAwake 14 = .ok (.goto 4, 3) := by decide +kernel
theorem dX3_isAwake_17 : decode cX3_isAwake 17 = .ok (.iconst 0, 1) := by decide +kernel
theorem dX3_isAwake_18 : decode cX3_isAwake 18 = .ok (.ireturn, 1) := by decide +kernel
set_option maxRecDepth 20000 in
theorem ggX3_canBeGiven_X3_isAwake : GoodIn wsX3_canBeGiven wsX3_isAwake := goodIn_r _ [7, 8, 9, 10, 11, 6, 12, 13, 14, 15, 16, 17, 25, 26, 27, 28] (by decide +kernel) (by decide +kernel)
set_option maxRecDepth 20000 in
theorem gX3_canBeGiven_X3_isAwake : GoodIn wsX3_canBeGiven (wsV RX3 59 RX3 yX3_isAwake wsX3_isAwake) := goodIn_app (goodIn_of _ (by decide +kernel)) ggX3_canBeGiven_X3_isAwake
set_option maxRecDepth 20000 in
theorem ggX3_canBeGiven_X1_serves : GoodIn wsX3_canBeGiven wsX1_serves := goodIn_r _ [22, 23, 24, 29, 30, 31, 32, 33, 34, 35, 36] (by decide +kernel) (by decide +kernel)
set_option maxRecDepth 20000 in
theorem gX3_canBeGiven_X1_serves : GoodIn wsX3_canBeGiven (wsV RX3 63 RX1 yX1_serves wsX1_serves) := goodIn_app (goodIn_of _ (by decide +kernel)) ggX3_canBeGiven_X1_serves
theorem dX3_canBeGiven_0 : decode cX3_canBeGiven 0 = .ok (.aload_n 0, 1) := by decide +kernel
theorem dX3_canBeGiven_1 : decode cX3_canBeGiven 1 = .ok (.getfield 18, 3) := by decide +kernel
theorem dX3_canBeGiven_4 : decode cX3_canBeGiven 4 = .ok (.getfield 56, 3) := by decide +kernel
theorem dX3_canBeGiven_7 : decode cX3_canBeGiven 7 = .ok (.iload_n 1, 1) := by decide +kernel
theorem dX3_canBeGiven_8 : decode cX3_canBeGiven 8 = .ok (.iaload, 1) := by decide +kernel
theorem dX3_canBeGiven_9 : decode cX3_canBeGiven 9 = .ok (.ifCond .ne 39, 3) := by decide +kernel
theorem dX3_canBeGiven_12 : decode cX3_canBeGiven 12 = .ok (.aload_n 0, 1) := by decide +kernel
theorem dX3_canBeGiven_13 : decode cX3_canBeGiven 13 = .ok (.iload_n 1, 1) := by decide +kernel
theorem dX3_canBeGiven_14 : decode cX3_canBeGiven 14 = .ok (.invokevirtual 59, 3) := by decide +kernel
theorem dX3_canBeGiven_17 : decode cX3_canBeGiven 17 = .ok (.ifCond .eq 31, 3) := by decide +kernel
theorem dX3_canBeGiven_20 : decode cX3_canBeGiven 20 = .ok (.aload_n 0, 1) := by decide +kernel
theorem dX3_canBeGiven_21 : decode cX3_canBeGiven 21 = .ok (.getfield 18, 3) := by decide +kernel
theorem dX3_canBeGiven_24 : decode cX3_canBeGiven 24 = .ok (.iload_n 1, 1) := by decide +kernel
theorem dX3_canBeGiven_25 : decode cX3_canBeGiven 25 = .ok (.iload_n 2, 1) := by decide +kernel
theorem dX3_canBeGiven_26 : decode cX3_canBeGiven 26 = .ok (.invokevirtual 63, 3) := by decide +kernel
theorem dX3_canBeGiven_29 : decode cX3_canBeGiven 29 = .ok (.ifCond .eq 19, 3) := by decide +kernel
theorem dX3_canBeGiven_32 : decode cX3_canBeGiven 32 = .ok (.aload_n 0, 1) := by decide +kernel
theorem dX3_canBeGiven_33 : decode cX3_canBeGiven 33 = .ok (.getfield 18, 3) := by decide +kernel
theorem dX3_canBeGiven_36 : decode cX3_canBeGiven 36 = .ok (.iload_n 1, 1) := by decide +kernel
theorem dX3_canBeGiven_37 : decode cX3_canBeGiven 37 = .ok (.iload_n 3, 1) := by decide +kernel
theorem dX3_canBeGiven_38 : decode cX3_canBeGiven 38 = .ok (.invokevirtual 63, 3) := by decide +kernel
theorem dX3_canBeGiven_41 : decode cX3_canBeGiven 41 = .ok (.ifCond .eq 7, 3) := by decide +kernel
theorem dX3_canBeGiven_44 : decode cX3_canBeGiven 44 = .ok (.iconst 1, 1) := by decide +kernel
theorem dX3_canBeGiven_45 : decode cX3_canBeGiven 45 = .ok (.goto 4, 3) := by decide +kernel
theorem dX3_canBeGiven_48 : decode cX3_canBeGiven 48 = .ok (.iconst 0, 1) := by decide +kernel
theorem dX3_canBeGiven_49 : decode cX3_canBeGiven 49 = .ok (.ireturn, 1) := by decide +kernel
set_option maxRecDepth 20000 in
theorem ggX3_costOf_X0_stopsOf : GoodIn wsX3_costOf wsX0_stopsOf := goodIn_r _ [12, 13, 14, 15, 16, 17, 18, 11, 19, 20, 21, 22, 23, 24, 25, 53, 54, 55, 56, 57, 58, 59, 60, 61] (by decide +kernel) (by decide +kernel)
set_option maxRecDepth 20000 in
theorem gX3_costOf_X0_stopsOf : GoodIn wsX3_costOf (wsV RX3 74 RX0 yX0_stopsOf wsX0_stopsOf) := goodIn_app (goodIn_of _ (by decide +kernel)) ggX3_costOf_X0_stopsOf
set_option maxRecDepth 20000 in
theorem ggX3_costOf_J6_bitCount_0f7a4 : GoodIn wsX3_costOf wsJ6_bitCount_0f7a4 := goodIn_r _ [29, 30, 31, 32] (by decide +kernel) (by decide +kernel)
set_option maxRecDepth 20000 in
theorem gX3_costOf_J6_bitCount_0f7a4 : GoodIn wsX3_costOf (va_wsS RX3 77 yJ6_bitCount_0f7a4 wsJ6_bitCount_0f7a4) := goodIn_app (goodIn_of _ (by decide +kernel)) ggX3_costOf_J6_bitCount_0f7a4
set_option maxRecDepth 20000 in
theorem ggX3_costOf_X0_numberWith : GoodIn wsX3_costOf wsX0_numberWith := goodIn_r _ [36, 37, 38, 39, 11, 40, 13, 20, 21, 53, 54, 55, 56, 57, 58, 59, 60, 61] (by decide +kernel) (by decide +kernel)
set_option maxRecDepth 20000 in
theorem gX3_costOf_X0_numberWith : GoodIn wsX3_costOf (wsV RX3 82 RX0 yX0_numberWith wsX0_numberWith) := goodIn_app (goodIn_of _ (by decide +kernel)) ggX3_costOf_X0_numberWith
theorem dX3_costOf_0 : decode cX3_costOf 0 = .ok (.aload_n 0, 1) := by decide +kernel
theorem dX3_costOf_1 : decode cX3_costOf 1 = .ok (.getfield 18, 3) := by decide +kernel
theorem dX3_costOf_4 : decode cX3_costOf 4 = .ok (.getfield 67, 3) := by decide +kernel
theorem dX3_costOf_7 : decode cX3_costOf 7 = .ok (.iload_n 1, 1) := by decide +kernel
theorem dX3_costOf_8 : decode cX3_costOf 8 = .ok (.iaload, 1) := by decide +kernel
theorem dX3_costOf_9 : decode cX3_costOf 9 = .ok (.iload_n 2, 1) := by decide +kernel
theorem dX3_costOf_10 : decode cX3_costOf 10 = .ok (.isub, 1) := by decide +kernel
theorem dX3_costOf_11 : decode cX3_costOf 11 = .ok (.invokestatic 70, 3) := by decide +kernel
theorem dX3_costOf_14 : decode cX3_costOf 14 = .ok (.istore 4, 2) := by decide +kernel
theorem dX3_costOf_16 : decode cX3_costOf 16 = .ok (.aload_n 0, 1) := by decide +kernel
theorem dX3_costOf_17 : decode cX3_costOf 17 = .ok (.getfield 25, 3) := by decide +kernel
theorem dX3_costOf_20 : decode cX3_costOf 20 = .ok (.iload_n 1, 1) := by decide +kernel
theorem dX3_costOf_21 : decode cX3_costOf 21 = .ok (.invokevirtual 74, 3) := by decide +kernel
theorem dX3_costOf_24 : decode cX3_costOf 24 = .ok (.iconst 1, 1) := by decide +kernel
theorem dX3_costOf_25 : decode cX3_costOf 25 = .ok (.iload_n 2, 1) := by decide +kernel
theorem dX3_costOf_26 : decode cX3_costOf 26 = .ok (.ishl, 1) := by decide +kernel
theorem dX3_costOf_27 : decode cX3_costOf 27 = .ok (.ior, 1) := by decide +kernel
theorem dX3_costOf_28 : decode cX3_costOf 28 = .ok (.iconst 1, 1) := by decide +kernel
theorem dX3_costOf_29 : decode cX3_costOf 29 = .ok (.iload_n 3, 1) := by decide +kernel
theorem dX3_costOf_30 : decode cX3_costOf 30 = .ok (.ishl, 1) := by decide +kernel
theorem dX3_costOf_31 : decode cX3_costOf 31 = .ok (.ior, 1) := by decide +kernel
theorem dX3_costOf_32 : decode cX3_costOf 32 = .ok (.invokestatic 77, 3) := by decide +kernel
theorem dX3_costOf_35 : decode cX3_costOf 35 = .ok (.istore 5, 2) := by decide +kernel
theorem dX3_costOf_37 : decode cX3_costOf 37 = .ok (.iload 4, 2) := by decide +kernel
theorem dX3_costOf_39 : decode cX3_costOf 39 = .ok (.iconst 2, 1) := by decide +kernel
theorem dX3_costOf_40 : decode cX3_costOf 40 = .ok (.iload 5, 2) := by decide +kernel
theorem dX3_costOf_42 : decode cX3_costOf 42 = .ok (.imul, 1) := by decide +kernel
theorem dX3_costOf_43 : decode cX3_costOf 43 = .ok (.iadd, 1) := by decide +kernel
theorem dX3_costOf_44 : decode cX3_costOf 44 = .ok (.aload_n 0, 1) := by decide +kernel
theorem dX3_costOf_45 : decode cX3_costOf 45 = .ok (.getfield 25, 3) := by decide +kernel
theorem dX3_costOf_48 : decode cX3_costOf 48 = .ok (.iload_n 1, 1) := by decide +kernel
theorem dX3_costOf_49 : decode cX3_costOf 49 = .ok (.invokevirtual 82, 3) := by decide +kernel
theorem dX3_costOf_52 : decode cX3_costOf 52 = .ok (.iadd, 1) := by decide +kernel
theorem dX3_costOf_53 : decode cX3_costOf 53 = .ok (.ireturn, 1) := by decide +kernel
set_option maxRecDepth 20000 in
theorem ggX3_bestCar_X3_canBeGiven : GoodIn wsX3_bestCar wsX3_canBeGiven := goodIn_r _ [7, 1, 8, 9, 10, 11, 6, 12, 13, 14, 15, 16, 17, 18, 19, 20, 21, 22, 23, 24, 25, 26, 27, 28, 29, 73, 74, 75, 76, 77, 78, 79, 80, 81, 82, 83, 84] (by decide +kernel) (by decide +kernel)
set_option maxRecDepth 20000 in
theorem gX3_bestCar_X3_canBeGiven : GoodIn wsX3_bestCar (wsV RX3 88 RX3 yX3_canBeGiven wsX3_canBeGiven) := goodIn_app (goodIn_of _ (by decide +kernel)) ggX3_bestCar_X3_canBeGiven
set_option maxRecDepth 20000 in
theorem ggX3_bestCar_X3_costOf : GoodIn wsX3_bestCar wsX3_costOf := goodIn_r _ [33, 1, 34, 35, 36, 37, 38, 39, 40, 41, 42, 43, 44, 45, 46, 47, 48, 49, 50, 51, 52, 53, 54, 55, 56, 57, 58, 59, 60, 61, 62, 63, 64, 65, 66, 67, 68, 69, 70, 71, 72, 73, 74, 75, 76, 77, 78, 79, 80, 81, 82, 83, 84, 85, 86, 87, 88, 89, 90, 91, 92, 93] (by decide +kernel) (by decide +kernel)
set_option maxRecDepth 20000 in
theorem gX3_bestCar_X3_costOf : GoodIn wsX3_bestCar (wsV RX3 92 RX3 yX3_costOf wsX3_costOf) := goodIn_app (goodIn_of _ (by decide +kernel)) ggX3_bestCar_X3_costOf
theorem dX3_bestCar_0 : decode cX3_bestCar 0 = .ok (.bipush (-9), 2) := by decide +kernel
theorem dX3_bestCar_2 : decode cX3_bestCar 2 = .ok (.istore_n 3, 1) := by decide +kernel
theorem dX3_bestCar_3 : decode cX3_bestCar 3 = .ok (.iconst 0, 1) := by decide +kernel
theorem dX3_bestCar_4 : decode cX3_bestCar 4 = .ok (.istore 4, 2) := by decide +kernel
theorem dX3_bestCar_6 : decode cX3_bestCar 6 = .ok (.iconst 0, 1) := by decide +kernel
theorem dX3_bestCar_7 : decode cX3_bestCar 7 = .ok (.istore 5, 2) := by decide +kernel
theorem dX3_bestCar_9 : decode cX3_bestCar 9 = .ok (.iload 5, 2) := by decide +kernel
theorem dX3_bestCar_11 : decode cX3_bestCar 11 = .ok (.aload_n 0, 1) := by decide +kernel
theorem dX3_bestCar_12 : decode cX3_bestCar 12 = .ok (.getfield 18, 3) := by decide +kernel
theorem dX3_bestCar_15 : decode cX3_bestCar 15 = .ok (.getfield 85, 3) := by decide +kernel
theorem dX3_bestCar_18 : decode cX3_bestCar 18 = .ok (.if_icmp .ge 53, 3) := by decide +kernel
theorem dX3_bestCar_21 : decode cX3_bestCar 21 = .ok (.aload_n 0, 1) := by decide +kernel
theorem dX3_bestCar_22 : decode cX3_bestCar 22 = .ok (.iload 5, 2) := by decide +kernel
theorem dX3_bestCar_24 : decode cX3_bestCar 24 = .ok (.iload_n 1, 1) := by decide +kernel
theorem dX3_bestCar_25 : decode cX3_bestCar 25 = .ok (.iload_n 2, 1) := by decide +kernel
theorem dX3_bestCar_26 : decode cX3_bestCar 26 = .ok (.invokevirtual 88, 3) := by decide +kernel
theorem dX3_bestCar_29 : decode cX3_bestCar 29 = .ok (.ifCond .ne 6, 3) := by decide +kernel
theorem dX3_bestCar_32 : decode cX3_bestCar 32 = .ok (.goto 33, 3) := by decide +kernel
theorem dX3_bestCar_35 : decode cX3_bestCar 35 = .ok (.aload_n 0, 1) := by decide +kernel
theorem dX3_bestCar_36 : decode cX3_bestCar 36 = .ok (.iload 5, 2) := by decide +kernel
theorem dX3_bestCar_38 : decode cX3_bestCar 38 = .ok (.iload_n 1, 1) := by decide +kernel
theorem dX3_bestCar_39 : decode cX3_bestCar 39 = .ok (.iload_n 2, 1) := by decide +kernel
theorem dX3_bestCar_40 : decode cX3_bestCar 40 = .ok (.invokevirtual 92, 3) := by decide +kernel
theorem dX3_bestCar_43 : decode cX3_bestCar 43 = .ok (.istore 6, 2) := by decide +kernel
theorem dX3_bestCar_45 : decode cX3_bestCar 45 = .ok (.iload_n 3, 1) := by decide +kernel
theorem dX3_bestCar_46 : decode cX3_bestCar 46 = .ok (.bipush (-9), 2) := by decide +kernel
theorem dX3_bestCar_48 : decode cX3_bestCar 48 = .ok (.if_icmp .eq 10, 3) := by decide +kernel
theorem dX3_bestCar_51 : decode cX3_bestCar 51 = .ok (.iload 6, 2) := by decide +kernel
theorem dX3_bestCar_53 : decode cX3_bestCar 53 = .ok (.iload 4, 2) := by decide +kernel
theorem dX3_bestCar_55 : decode cX3_bestCar 55 = .ok (.if_icmp .ge 10, 3) := by decide +kernel
theorem dX3_bestCar_58 : decode cX3_bestCar 58 = .ok (.iload 5, 2) := by decide +kernel
theorem dX3_bestCar_60 : decode cX3_bestCar 60 = .ok (.istore_n 3, 1) := by decide +kernel
theorem dX3_bestCar_61 : decode cX3_bestCar 61 = .ok (.iload 6, 2) := by decide +kernel
theorem dX3_bestCar_63 : decode cX3_bestCar 63 = .ok (.istore 4, 2) := by decide +kernel
theorem dX3_bestCar_65 : decode cX3_bestCar 65 = .ok (.iinc 5 1, 3) := by decide +kernel
theorem dX3_bestCar_68 : decode cX3_bestCar 68 = .ok (.goto (-59), 3) := by decide +kernel
theorem dX3_bestCar_71 : decode cX3_bestCar 71 = .ok (.iload_n 3, 1) := by decide +kernel
theorem dX3_bestCar_72 : decode cX3_bestCar 72 = .ok (.ireturn, 1) := by decide +kernel
set_option maxRecDepth 20000 in
theorem ggX3_oneTick_X3_bestCar : GoodIn wsX3_oneTick wsX3_bestCar := goodIn_r _ [14, 6, 7, 15, 16, 17, 13, 18, 8, 19, 20, 21, 22, 23, 24, 25, 26, 27, 9, 28, 29, 30, 31, 32, 33, 34, 35, 36, 37, 38, 39, 40, 41, 42, 43, 44, 45, 46, 47, 1, 48, 49, 50, 51, 52, 53, 54, 55, 56, 57, 58, 59, 60, 61, 62, 63, 64, 65, 66, 67, 68, 69, 70, 71, 72, 73, 74, 75, 76, 77, 78, 79, 80, 120, 121, 122, 123, 133, 134, 135, 136, 137, 138, 139, 140, 124, 125, 126, 127, 128, 129, 130, 131, 132] (by decide +kernel) (by decide +kernel)
set_option maxRecDepth 20000 in
theorem gX3_oneTick_X3_bestCar : GoodIn wsX3_oneTick (wsV RX3 104 RX3 yX3_bestCar wsX3_bestCar) := goodIn_app (goodIn_of _ (by decide +kernel)) ggX3_oneTick_X3_bestCar
set_option maxRecDepth 20000 in
theorem ggX3_oneTick_X0_give : GoodIn wsX3_oneTick wsX0_give := goodIn_r _ [84, 60, 61, 85, 86, 87, 88, 51, 89, 53, 124, 125, 126, 127, 128, 129, 130, 131, 132] (by decide +kernel) (by decide +kernel)
set_option maxRecDepth 20000 in
theorem gX3_oneTick_X0_give : GoodIn wsX3_oneTick (wsV RX3 107 RX0 yX0_give wsX0_give) := goodIn_app (goodIn_of _ (by decide +kernel)) ggX3_oneTick_X0_give
set_option maxRecDepth 20000 in
theorem ggX3_oneTick_X3_stopOrTravel : GoodIn wsX3_oneTick wsX3_stopOrTravel := goodIn_r _ [93, 6, 43, 1, 9, 94, 95, 96, 97, 98, 51, 99, 53, 55, 60, 100, 62, 63, 64, 65, 61, 101, 102, 103, 104, 54, 105, 77, 78, 79, 80, 56, 57, 58, 59, 106, 107, 108, 109, 110, 111, 112, 113, 45, 46, 47, 114, 115, 116, 35, 117, 118, 119, 120, 121, 122, 123, 133, 134, 135, 136, 137, 138, 139, 140, 124, 125, 126, 127, 128, 129, 130, 131, 132] (by decide +kernel) (by decide +kernel)
set_option maxRecDepth 20000 in
theorem gX3_oneTick_X3_stopOrTravel : GoodIn wsX3_oneTick (wsV RX3 111 RX3 yX3_stopOrTravel wsX3_stopOrTravel) := goodIn_app (goodIn_of _ (by decide +kernel)) ggX3_oneTick_X3_stopOrTravel
theorem dX3_oneTick_0 : decode cX3_oneTick 0 = .ok (.iconst 0, 1) := by decide +kernel
theorem dX3_oneTick_1 : decode cX3_oneTick 1 = .ok (.istore_n 1, 1) := by decide +kernel
theorem dX3_oneTick_2 : decode cX3_oneTick 2 = .ok (.iload_n 1, 1) := by decide +kernel
theorem dX3_oneTick_3 : decode cX3_oneTick 3 = .ok (.aload_n 0, 1) := by decide +kernel
theorem dX3_oneTick_4 : decode cX3_oneTick 4 = .ok (.getfield 25, 3) := by decide +kernel
theorem dX3_oneTick_7 : decode cX3_oneTick 7 = .ok (.getfield 96, 3) := by decide +kernel
theorem dX3_oneTick_10 : decode cX3_oneTick 10 = .ok (.if_icmp .ge 51, 3) := by decide +kernel
theorem dX3_oneTick_13 : decode cX3_oneTick 13 = .ok (.aload_n 0, 1) := by decide +kernel
theorem dX3_oneTick_14 : decode cX3_oneTick 14 = .ok (.getfield 25, 3) := by decide +kernel
theorem dX3_oneTick_17 : decode cX3_oneTick 17 = .ok (.getfield 97, 3) := by decide +kernel
theorem dX3_oneTick_20 : decode cX3_oneTick 20 = .ok (.iload_n 1, 1) := by decide +kernel
theorem dX3_oneTick_21 : decode cX3_oneTick 21 = .ok (.iaload, 1) := by decide +kernel
theorem dX3_oneTick_22 : decode cX3_oneTick 22 = .ok (.ifCond .ne 33, 3) := by decide +kernel
theorem dX3_oneTick_25 : decode cX3_oneTick 25 = .ok (.aload_n 0, 1) := by decide +kernel
theorem dX3_oneTick_26 : decode cX3_oneTick 26 = .ok (.getfield 25, 3) := by decide +kernel
theorem dX3_oneTick_29 : decode cX3_oneTick 29 = .ok (.iload_n 1, 1) := by decide +kernel
theorem dX3_oneTick_30 : decode cX3_oneTick 30 = .ok (.aload_n 0, 1) := by decide +kernel
theorem dX3_oneTick_31 : decode cX3_oneTick 31 = .ok (.aload_n 0, 1) := by decide +kernel
theorem dX3_oneTick_32 : decode cX3_oneTick 32 = .ok (.getfield 25, 3) := by decide +kernel
theorem dX3_oneTick_35 : decode cX3_oneTick 35 = .ok (.getfield 100, 3) := by decide +kernel
theorem dX3_oneTick_38 : decode cX3_oneTick 38 = .ok (.iload_n 1, 1) := by decide +kernel
theorem dX3_oneTick_39 : decode cX3_oneTick 39 = .ok (.iaload, 1) := by decide +kernel
theorem dX3_oneTick_40 : decode cX3_oneTick 40 = .ok (.aload_n 0, 1) := by decide +kernel
theorem dX3_oneTick_41 : decode cX3_oneTick 41 = .ok (.getfield 25, 3) := by decide +kernel
theorem dX3_oneTick_44 : decode cX3_oneTick 44 = .ok (.getfield 101, 3) := by decide +kernel
theorem dX3_oneTick_47 : decode cX3_oneTick 47 = .ok (.iload_n 1, 1) := by decide +kernel
theorem dX3_oneTick_48 : decode cX3_oneTick 48 = .ok (.iaload, 1) := by decide +kernel
theorem dX3_oneTick_49 : decode cX3_oneTick 49 = .ok (.invokevirtual 104, 3) := by decide +kernel
theorem dX3_oneTick_52 : decode cX3_oneTick 52 = .ok (.invokevirtual 107, 3) := by decide +kernel
theorem dX3_oneTick_55 : decode cX3_oneTick 55 = .ok (.iinc 1 1, 3) := by decide +kernel
theorem dX3_oneTick_58 : decode cX3_oneTick 58 = .ok (.goto (-56), 3) := by decide +kernel
theorem dX3_oneTick_61 : decode cX3_oneTick 61 = .ok (.iconst 0, 1) := by decide +kernel
theorem dX3_oneTick_62 : decode cX3_oneTick 62 = .ok (.istore_n 1, 1) := by decide +kernel
theorem dX3_oneTick_63 : decode cX3_oneTick 63 = .ok (.iload_n 1, 1) := by decide +kernel
theorem dX3_oneTick_64 : decode cX3_oneTick 64 = .ok (.aload_n 0, 1) := by decide +kernel
theorem dX3_oneTick_65 : decode cX3_oneTick 65 = .ok (.getfield 18, 3) := by decide +kernel
theorem dX3_oneTick_68 : decode cX3_oneTick 68 = .ok (.getfield 85, 3) := by decide +kernel
theorem dX3_oneTick_71 : decode cX3_oneTick 71 = .ok (.if_icmp .ge 26, 3) := by decide +kernel
theorem dX3_oneTick_74 : decode cX3_oneTick 74 = .ok (.aload_n 0, 1) := by decide +kernel
theorem dX3_oneTick_75 : decode cX3_oneTick 75 = .ok (.getfield 18, 3) := by decide +kernel
theorem dX3_oneTick_78 : decode cX3_oneTick 78 = .ok (.getfield 56, 3) := by decide +kernel
theorem dX3_oneTick_81 : decode cX3_oneTick 81 = .ok (.iload_n 1, 1) := by decide +kernel
theorem dX3_oneTick_82 : decode cX3_oneTick 82 = .ok (.iaload, 1) := by decide +kernel
theorem dX3_oneTick_83 : decode cX3_oneTick 83 = .ok (.ifCond .ne 8, 3) := by decide +kernel
theorem dX3_oneTick_86 : decode cX3_oneTick 86 = .ok (.aload_n 0, 1) := by decide +kernel
theorem dX3_oneTick_87 : decode cX3_oneTick 87 = .ok (.iload_n 1, 1) := by decide +kernel
theorem dX3_oneTick_88 : decode cX3_oneTick 88 = .ok (.invokevirtual 111, 3) := by decide +kernel
theorem dX3_oneTick_91 : decode cX3_oneTick 91 = .ok (.iinc 1 1, 3) := by decide +kernel
theorem dX3_oneTick_94 : decode cX3_oneTick 94 = .ok (.goto (-31), 3) := by decide +kernel
theorem dX3_oneTick_97 : decode cX3_oneTick 97 = .ok (.aload_n 0, 1) := by decide +kernel
theorem dX3_oneTick_98 : decode cX3_oneTick 98 = .ok (.dup, 1) := by decide +kernel
theorem dX3_oneTick_99 : decode cX3_oneTick 99 = .ok (.getfield 29, 3) := by decide +kernel
theorem dX3_oneTick_102 : decode cX3_oneTick 102 = .ok (.iconst 1, 1) := by decide +kernel
theorem dX3_oneTick_103 : decode cX3_oneTick 103 = .ok (.iadd, 1) := by decide +kernel
theorem dX3_oneTick_104 : decode cX3_oneTick 104 = .ok (.putfield 29, 3) := by decide +kernel
theorem dX3_oneTick_107 : decode cX3_oneTick 107 = .ok (.return_, 1) := by decide +kernel
set_option maxRecDepth 20000 in
theorem ggX3_stopOrTravel_X0_letOut : GoodIn wsX3_stopOrTravel wsX0_letOut := goodIn_r _ [11, 12, 13, 14, 15, 16, 17, 18, 10, 19, 20, 65, 66, 67, 68, 69, 70, 71, 72, 73] (by decide +kernel) (by decide +kernel)
set_option maxRecDepth 20000 in
theorem gX3_stopOrTravel_X0_letOut : GoodIn wsX3_stopOrTravel (wsV RX3 115 RX0 yX0_letOut wsX0_letOut) := goodIn_app (goodIn_of _ (by decide +kernel)) ggX3_stopOrTravel_X0_letOut
set_option maxRecDepth 20000 in
theorem ggX3_stopOrTravel_X0_takeIn : GoodIn wsX3_stopOrTravel wsX0_takeIn := goodIn_r _ [24, 12, 25, 14, 26, 27, 28, 29, 10, 30, 20, 31, 32, 33, 34, 65, 66, 67, 68, 69, 70, 71, 72, 73] (by decide +kernel) (by decide +kernel)
set_option maxRecDepth 20000 in
theorem gX3_stopOrTravel_X0_takeIn : GoodIn wsX3_stopOrTravel (wsV RX3 121 RX0 yX0_takeIn wsX0_takeIn) := goodIn_app (goodIn_of _ (by decide +kernel)) ggX3_stopOrTravel_X0_takeIn
set_option maxRecDepth 20000 in
theorem ggX3_stopOrTravel_X0_aimOf : GoodIn wsX3_stopOrTravel wsX0_aimOf := goodIn_r _ [38, 12, 13, 25, 16, 17, 18, 10, 19, 14, 20, 39, 40, 41, 42, 43, 44, 45, 31, 32, 33, 34, 65, 66, 67, 68, 69, 70, 71, 72, 73] (by decide +kernel) (by decide +kernel)
set_option maxRecDepth 20000 in
theorem gX3_stopOrTravel_X0_aimOf : GoodIn wsX3_stopOrTravel (wsV RX3 128 RX0 yX0_aimOf wsX0_aimOf) := goodIn_app (goodIn_of _ (by decide +kernel)) ggX3_stopOrTravel_X0_aimOf
set_option maxRecDepth 20000 in
theorem ggX3_stopOrTravel_X1_travelTowards : GoodIn wsX3_stopOrTravel wsX1_travelTowards := goodIn_r _ [50, 51, 52, 57, 58, 59, 60, 61, 62, 63, 64] (by decide +kernel) (by decide +kernel)
set_option maxRecDepth 20000 in
theorem gX3_stopOrTravel_X1_travelTowards : GoodIn wsX3_stopOrTravel (wsV RX3 131 RX1 yX1_travelTowards wsX1_travelTowards) := goodIn_app (goodIn_of _ (by decide +kernel)) ggX3_stopOrTravel_X1_travelTowards
theorem dX3_stopOrTravel_0 : decode cX3_stopOrTravel 0 = .ok (.aload_n 0, 1) := by decide +kernel
theorem dX3_stopOrTravel_1 : decode cX3_stopOrTravel 1 = .ok (.getfield 18, 3) := by decide +kernel
theorem dX3_stopOrTravel_4 : decode cX3_stopOrTravel 4 = .ok (.getfield 67, 3) := by decide +kernel
theorem dX3_stopOrTravel_7 : decode cX3_stopOrTravel 7 = .ok (.iload_n 1, 1) := by decide +kernel
theorem dX3_stopOrTravel_8 : decode cX3_stopOrTravel 8 = .ok (.iaload, 1) := by decide +kernel
theorem dX3_stopOrTravel_9 : decode cX3_stopOrTravel 9 = .ok (.istore_n 2, 1) := by decide +kernel
theorem dX3_stopOrTravel_10 : decode cX3_stopOrTravel 10 = .ok (.aload_n 0, 1) := by decide +kernel
theorem dX3_stopOrTravel_11 : decode cX3_stopOrTravel 11 = .ok (.getfield 25, 3) := by decide +kernel
theorem dX3_stopOrTravel_14 : decode cX3_stopOrTravel 14 = .ok (.iload_n 1, 1) := by decide +kernel
theorem dX3_stopOrTravel_15 : decode cX3_stopOrTravel 15 = .ok (.iload_n 2, 1) := by decide +kernel
theorem dX3_stopOrTravel_16 : decode cX3_stopOrTravel 16 = .ok (.aload_n 0, 1) := by decide +kernel
theorem dX3_stopOrTravel_17 : decode cX3_stopOrTravel 17 = .ok (.getfield 29, 3) := by decide +kernel
theorem dX3_stopOrTravel_20 : decode cX3_stopOrTravel 20 = .ok (.invokevirtual 115, 3) := by decide +kernel
theorem dX3_stopOrTravel_23 : decode cX3_stopOrTravel 23 = .ok (.istore_n 3, 1) := by decide +kernel
theorem dX3_stopOrTravel_24 : decode cX3_stopOrTravel 24 = .ok (.aload_n 0, 1) := by decide +kernel
theorem dX3_stopOrTravel_25 : decode cX3_stopOrTravel 25 = .ok (.getfield 25, 3) := by decide +kernel
theorem dX3_stopOrTravel_28 : decode cX3_stopOrTravel 28 = .ok (.iload_n 1, 1) := by decide +kernel
theorem dX3_stopOrTravel_29 : decode cX3_stopOrTravel 29 = .ok (.iload_n 2, 1) := by decide +kernel
theorem dX3_stopOrTravel_30 : decode cX3_stopOrTravel 30 = .ok (.aload_n 0, 1) := by decide +kernel
theorem dX3_stopOrTravel_31 : decode cX3_stopOrTravel 31 = .ok (.getfield 18, 3) := by decide +kernel
theorem dX3_stopOrTravel_34 : decode cX3_stopOrTravel 34 = .ok (.getfield 118, 3) := by decide +kernel
theorem dX3_stopOrTravel_37 : decode cX3_stopOrTravel 37 = .ok (.iload_n 1, 1) := by decide +kernel
theorem dX3_stopOrTravel_38 : decode cX3_stopOrTravel 38 = .ok (.iaload, 1) := by decide +kernel
theorem dX3_stopOrTravel_39 : decode cX3_stopOrTravel 39 = .ok (.aload_n 0, 1) := by decide +kernel
theorem dX3_stopOrTravel_40 : decode cX3_stopOrTravel 40 = .ok (.getfield 29, 3) := by decide +kernel
theorem dX3_stopOrTravel_43 : decode cX3_stopOrTravel 43 = .ok (.invokevirtual 121, 3) := by decide +kernel
theorem dX3_stopOrTravel_46 : decode cX3_stopOrTravel 46 = .ok (.istore 4, 2) := by decide +kernel
theorem dX3_stopOrTravel_48 : decode cX3_stopOrTravel 48 = .ok (.iload_n 3, 1) := by decide +kernel
theorem dX3_stopOrTravel_49 : decode cX3_stopOrTravel 49 = .ok (.iload 4, 2) := by decide +kernel
theorem dX3_stopOrTravel_51 : decode cX3_stopOrTravel 51 = .ok (.iadd, 1) := by decide +kernel
theorem dX3_stopOrTravel_52 : decode cX3_stopOrTravel 52 = .ok (.ifCond .le 17, 3) := by decide +kernel
theorem dX3_stopOrTravel_55 : decode cX3_stopOrTravel 55 = .ok (.aload_n 0, 1) := by decide +kernel
theorem dX3_stopOrTravel_56 : decode cX3_stopOrTravel 56 = .ok (.getfield 18, 3) := by decide +kernel
theorem dX3_stopOrTravel_59 : decode cX3_stopOrTravel 59 = .ok (.dup, 1) := by decide +kernel
theorem dX3_stopOrTravel_60 : decode cX3_stopOrTravel 60 = .ok (.getfield 125, 3) := by decide +kernel
theorem dX3_stopOrTravel_63 : decode cX3_stopOrTravel 63 = .ok (.iconst 1, 1) := by decide +kernel
theorem dX3_stopOrTravel_64 : decode cX3_stopOrTravel 64 = .ok (.iadd, 1) := by decide +kernel
theorem dX3_stopOrTravel_65 : decode cX3_stopOrTravel 65 = .ok (.putfield 125, 3) := by decide +kernel
theorem dX3_stopOrTravel_68 : decode cX3_stopOrTravel 68 = .ok (.return_, 1) := by decide +kernel
theorem dX3_stopOrTravel_69 : decode cX3_stopOrTravel 69 = .ok (.aload_n 0, 1) := by decide +kernel
theorem dX3_stopOrTravel_70 : decode cX3_stopOrTravel 70 = .ok (.getfield 25, 3) := by decide +kernel
theorem dX3_stopOrTravel_73 : decode cX3_stopOrTravel 73 = .ok (.iload_n 1, 1) := by decide +kernel
theorem dX3_stopOrTravel_74 : decode cX3_stopOrTravel 74 = .ok (.iload_n 2, 1) := by decide +kernel
theorem dX3_stopOrTravel_75 : decode cX3_stopOrTravel 75 = .ok (.invokevirtual 128, 3) := by decide +kernel
theorem dX3_stopOrTravel_78 : decode cX3_stopOrTravel 78 = .ok (.istore 5, 2) := by decide +kernel
theorem dX3_stopOrTravel_80 : decode cX3_stopOrTravel 80 = .ok (.iload 5, 2) := by decide +kernel
theorem dX3_stopOrTravel_82 : decode cX3_stopOrTravel 82 = .ok (.bipush (-9), 2) := by decide +kernel
theorem dX3_stopOrTravel_84 : decode cX3_stopOrTravel 84 = .ok (.if_icmp .eq 13, 3) := by decide +kernel
theorem dX3_stopOrTravel_87 : decode cX3_stopOrTravel 87 = .ok (.aload_n 0, 1) := by decide +kernel
theorem dX3_stopOrTravel_88 : decode cX3_stopOrTravel 88 = .ok (.getfield 18, 3) := by decide +kernel
theorem dX3_stopOrTravel_91 : decode cX3_stopOrTravel 91 = .ok (.iload_n 1, 1) := by decide +kernel
theorem dX3_stopOrTravel_92 : decode cX3_stopOrTravel 92 = .ok (.iload 5, 2) := by decide +kernel
theorem dX3_stopOrTravel_94 : decode cX3_stopOrTravel 94 = .ok (.invokevirtual 131, 3) := by decide +kernel
theorem dX3_stopOrTravel_97 : decode cX3_stopOrTravel 97 = .ok (.return_, 1) := by decide +kernel
set_option maxRecDepth 20000 in
theorem ggX3_breakCar_X0_loseCar : GoodIn wsX3_breakCar wsX0_loseCar := goodIn_r _ [10, 11, 12, 13, 14, 15, 16, 17, 18, 19, 9, 20, 21, 22, 23, 24, 37, 38, 39, 40, 41, 42, 43, 44, 45] (by decide +kernel) (by decide +kernel)
set_option maxRecDepth 20000 in
theorem gX3_breakCar_X0_loseCar : GoodIn wsX3_breakCar (wsV RX3 134 RX0 yX0_loseCar wsX0_loseCar) := goodIn_app (goodIn_of _ (by decide +kernel)) ggX3_breakCar_X0_loseCar
theorem dX3_breakCar_0 : decode cX3_breakCar 0 = .ok (.aload_n 0, 1) := by decide +kernel
theorem dX3_breakCar_1 : decode cX3_breakCar 1 = .ok (.getfield 18, 3) := by decide +kernel
theorem dX3_breakCar_4 : decode cX3_breakCar 4 = .ok (.getfield 56, 3) := by decide +kernel
theorem dX3_breakCar_7 : decode cX3_breakCar 7 = .ok (.iload_n 1, 1) := by decide +kernel
theorem dX3_breakCar_8 : decode cX3_breakCar 8 = .ok (.iconst 2, 1) := by decide +kernel
theorem dX3_breakCar_9 : decode cX3_breakCar 9 = .ok (.iastore, 1) := by decide +kernel
theorem dX3_breakCar_10 : decode cX3_breakCar 10 = .ok (.aload_n 0, 1) := by decide +kernel
theorem dX3_breakCar_11 : decode cX3_breakCar 11 = .ok (.getfield 25, 3) := by decide +kernel
theorem dX3_breakCar_14 : decode cX3_breakCar 14 = .ok (.iload_n 1, 1) := by decide +kernel
theorem dX3_breakCar_15 : decode cX3_breakCar 15 = .ok (.aload_n 0, 1) := by decide +kernel
theorem dX3_breakCar_16 : decode cX3_breakCar 16 = .ok (.getfield 18, 3) := by decide +kernel
theorem dX3_breakCar_19 : decode cX3_breakCar 19 = .ok (.getfield 67, 3) := by decide +kernel
theorem dX3_breakCar_22 : decode cX3_breakCar 22 = .ok (.iload_n 1, 1) := by decide +kernel
theorem dX3_breakCar_23 : decode cX3_breakCar 23 = .ok (.iaload, 1) := by decide +kernel
theorem dX3_breakCar_24 : decode cX3_breakCar 24 = .ok (.aload_n 0, 1) := by decide +kernel
theorem dX3_breakCar_25 : decode cX3_breakCar 25 = .ok (.getfield 29, 3) := by decide +kernel
theorem dX3_breakCar_28 : decode cX3_breakCar 28 = .ok (.invokevirtual 134, 3) := by decide +kernel
theorem dX3_breakCar_31 : decode cX3_breakCar 31 = .ok (.return_, 1) := by decide +kernel
set_option maxRecDepth 20000 in
theorem ggX4_init_X3_init : GoodIn wsX4_init wsX3_init := goodIn_r _ [15, 16, 2, 3, 17, 18, 19, 20, 21, 22, 23, 24, 25, 26, 27, 28, 29, 30, 31, 32, 33, 34, 35, 36, 37, 38, 39, 40, 41, 42, 43, 44, 45, 46, 54, 55, 56, 57, 64, 65, 66, 67, 68, 69, 70, 71, 72, 73, 74, 75, 76, 77, 78, 79, 80] (by decide +kernel) (by decide +kernel)
set_option maxRecDepth 20000 in
theorem gX4_init_X3_init : GoodIn wsX4_init (wsX3_init) := ggX4_init_X3_init
set_option maxRecDepth 20000 in
theorem ggX4_init_X2_init : GoodIn wsX4_init wsX2_init := goodIn_r _ [49, 50, 2, 3, 51, 52, 5, 6, 53, 14, 15, 16, 17, 18, 19, 20, 21, 22, 23, 24, 25, 26, 27, 28, 29, 30, 31, 32, 33, 34, 35, 36, 37, 38, 39, 40, 41, 42, 43, 44, 45, 46, 61, 62, 63, 54, 55, 56, 57, 64, 65, 66, 67, 68, 69, 70, 71, 72, 73, 74, 75, 76, 77, 78, 79, 80] (by decide +kernel) (by decide +kernel)
set_option maxRecDepth 20000 in
theorem gX4_init_X2_init : GoodIn wsX4_init (wsX2_init) := ggX4_init_X2_init
theorem dJ6_bitCount_0f7a4_0 : decode cJ6_bitCount_0f7a4 0 = .ok (.iload_n 0, 1) := by decide +kernel
theorem dJ6_bitCount_0f7a4_1 : decode cJ6_bitCount_0f7a4 1 = .ok (.iload_n 0, 1) := by decide +kernel
theorem dJ6_bitCount_0f7a4_2 : decode cJ6_bitCount_0f7a4 2 = .ok (.iconst 1, 1) := by decide +kernel
theorem dJ6_bitCount_0f7a4_3 : decode cJ6_bitCount_0f7a4 3 = .ok (.iushr, 1) := by decide +kernel
theorem dJ6_bitCount_0f7a4_4 : decode cJ6_bitCount_0f7a4 4 = .ok (.ldc_w 265, 3) := by decide +kernel
theorem dJ6_bitCount_0f7a4_7 : decode cJ6_bitCount_0f7a4 7 = .ok (.iand, 1) := by decide +kernel
theorem dJ6_bitCount_0f7a4_8 : decode cJ6_bitCount_0f7a4 8 = .ok (.isub, 1) := by decide +kernel
theorem dJ6_bitCount_0f7a4_9 : decode cJ6_bitCount_0f7a4 9 = .ok (.istore_n 0, 1) := by decide +kernel
theorem dJ6_bitCount_0f7a4_10 : decode cJ6_bitCount_0f7a4 10 = .ok (.iload_n 0, 1) := by decide +kernel
theorem dJ6_bitCount_0f7a4_11 : decode cJ6_bitCount_0f7a4 11 = .ok (.ldc_w 266, 3) := by decide +kernel
theorem dJ6_bitCount_0f7a4_14 : decode cJ6_bitCount_0f7a4 14 = .ok (.iand, 1) := by decide +kernel
theorem dJ6_bitCount_0f7a4_15 : decode cJ6_bitCount_0f7a4 15 = .ok (.iload_n 0, 1) := by decide +kernel
theorem dJ6_bitCount_0f7a4_16 : decode cJ6_bitCount_0f7a4 16 = .ok (.iconst 2, 1) := by decide +kernel
theorem dJ6_bitCount_0f7a4_17 : decode cJ6_bitCount_0f7a4 17 = .ok (.iushr, 1) := by decide +kernel
theorem dJ6_bitCount_0f7a4_18 : decode cJ6_bitCount_0f7a4 18 = .ok (.ldc_w 266, 3) := by decide +kernel
theorem dJ6_bitCount_0f7a4_21 : decode cJ6_bitCount_0f7a4 21 = .ok (.iand, 1) := by decide +kernel
theorem dJ6_bitCount_0f7a4_22 : decode cJ6_bitCount_0f7a4 22 = .ok (.iadd, 1) := by decide +kernel
theorem dJ6_bitCount_0f7a4_23 : decode cJ6_bitCount_0f7a4 23 = .ok (.istore_n 0, 1) := by decide +kernel
theorem dJ6_bitCount_0f7a4_24 : decode cJ6_bitCount_0f7a4 24 = .ok (.iload_n 0, 1) := by decide +kernel
theorem dJ6_bitCount_0f7a4_25 : decode cJ6_bitCount_0f7a4 25 = .ok (.iload_n 0, 1) := by decide +kernel
theorem dJ6_bitCount_0f7a4_26 : decode cJ6_bitCount_0f7a4 26 = .ok (.iconst 4, 1) := by decide +kernel
theorem dJ6_bitCount_0f7a4_27 : decode cJ6_bitCount_0f7a4 27 = .ok (.iushr, 1) := by decide +kernel
theorem dJ6_bitCount_0f7a4_28 : decode cJ6_bitCount_0f7a4 28 = .ok (.iadd, 1) := by decide +kernel
theorem dJ6_bitCount_0f7a4_29 : decode cJ6_bitCount_0f7a4 29 = .ok (.ldc_w 267, 3) := by decide +kernel
theorem dJ6_bitCount_0f7a4_32 : decode cJ6_bitCount_0f7a4 32 = .ok (.iand, 1) := by decide +kernel
theorem dJ6_bitCount_0f7a4_33 : decode cJ6_bitCount_0f7a4 33 = .ok (.istore_n 0, 1) := by decide +kernel
theorem dJ6_bitCount_0f7a4_34 : decode cJ6_bitCount_0f7a4 34 = .ok (.iload_n 0, 1) := by decide +kernel
theorem dJ6_bitCount_0f7a4_35 : decode cJ6_bitCount_0f7a4 35 = .ok (.iload_n 0, 1) := by decide +kernel
theorem dJ6_bitCount_0f7a4_36 : decode cJ6_bitCount_0f7a4 36 = .ok (.bipush 8, 2) := by decide +kernel
theorem dJ6_bitCount_0f7a4_38 : decode cJ6_bitCount_0f7a4 38 = .ok (.iushr, 1) := by decide +kernel
theorem dJ6_bitCount_0f7a4_39 : decode cJ6_bitCount_0f7a4 39 = .ok (.iadd, 1) := by decide +kernel
theorem dJ6_bitCount_0f7a4_40 : decode cJ6_bitCount_0f7a4 40 = .ok (.istore_n 0, 1) := by decide +kernel
theorem dJ6_bitCount_0f7a4_41 : decode cJ6_bitCount_0f7a4 41 = .ok (.iload_n 0, 1) := by decide +kernel
theorem dJ6_bitCount_0f7a4_42 : decode cJ6_bitCount_0f7a4 42 = .ok (.iload_n 0, 1) := by decide +kernel
theorem dJ6_bitCount_0f7a4_43 : decode cJ6_bitCount_0f7a4 43 = .ok (.bipush 16, 2) := by decide +kernel
theorem dJ6_bitCount_0f7a4_45 : decode cJ6_bitCount_0f7a4 45 = .ok (.iushr, 1) := by decide +kernel
theorem dJ6_bitCount_0f7a4_46 : decode cJ6_bitCount_0f7a4 46 = .ok (.iadd, 1) := by decide +kernel
theorem dJ6_bitCount_0f7a4_47 : decode cJ6_bitCount_0f7a4 47 = .ok (.istore_n 0, 1) := by decide +kernel
theorem dJ6_bitCount_0f7a4_48 : decode cJ6_bitCount_0f7a4 48 = .ok (.iload_n 0, 1) := by decide +kernel
theorem dJ6_bitCount_0f7a4_49 : decode cJ6_bitCount_0f7a4 49 = .ok (.bipush 63, 2) := by decide +kernel
theorem dJ6_bitCount_0f7a4_51 : decode cJ6_bitCount_0f7a4 51 = .ok (.iand, 1) := by decide +kernel
theorem dJ6_bitCount_0f7a4_52 : decode cJ6_bitCount_0f7a4 52 = .ok (.ireturn, 1) := by decide +kernel
theorem dJ9_floorMod_7cf53_0 : decode cJ9_floorMod_7cf53 0 = .ok (.iload_n 0, 1) := by decide +kernel
theorem dJ9_floorMod_7cf53_1 : decode cJ9_floorMod_7cf53 1 = .ok (.iload_n 1, 1) := by decide +kernel
theorem dJ9_floorMod_7cf53_2 : decode cJ9_floorMod_7cf53 2 = .ok (.irem, 1) := by decide +kernel
theorem dJ9_floorMod_7cf53_3 : decode cJ9_floorMod_7cf53 3 = .ok (.istore_n 2, 1) := by decide +kernel
theorem dJ9_floorMod_7cf53_4 : decode cJ9_floorMod_7cf53 4 = .ok (.iload_n 0, 1) := by decide +kernel
theorem dJ9_floorMod_7cf53_5 : decode cJ9_floorMod_7cf53 5 = .ok (.iload_n 1, 1) := by decide +kernel
theorem dJ9_floorMod_7cf53_6 : decode cJ9_floorMod_7cf53 6 = .ok (.ixor, 1) := by decide +kernel
theorem dJ9_floorMod_7cf53_7 : decode cJ9_floorMod_7cf53 7 = .ok (.ifCond .ge 11, 3) := by decide +kernel
theorem dJ9_floorMod_7cf53_10 : decode cJ9_floorMod_7cf53 10 = .ok (.iload_n 2, 1) := by decide +kernel
theorem dJ9_floorMod_7cf53_11 : decode cJ9_floorMod_7cf53 11 = .ok (.ifCond .eq 7, 3) := by decide +kernel
theorem dJ9_floorMod_7cf53_14 : decode cJ9_floorMod_7cf53 14 = .ok (.iload_n 2, 1) := by decide +kernel
theorem dJ9_floorMod_7cf53_15 : decode cJ9_floorMod_7cf53 15 = .ok (.iload_n 1, 1) := by decide +kernel
theorem dJ9_floorMod_7cf53_16 : decode cJ9_floorMod_7cf53 16 = .ok (.iadd, 1) := by decide +kernel
theorem dJ9_floorMod_7cf53_17 : decode cJ9_floorMod_7cf53 17 = .ok (.ireturn, 1) := by decide +kernel
theorem dJ9_floorMod_7cf53_18 : decode cJ9_floorMod_7cf53 18 = .ok (.iload_n 2, 1) := by decide +kernel
theorem dJ9_floorMod_7cf53_19 : decode cJ9_floorMod_7cf53 19 = .ok (.ireturn, 1) := by decide +kernel
theorem dJ9_abs_0f7a4_0 : decode cJ9_abs_0f7a4 0 = .ok (.iload_n 0, 1) := by decide +kernel
theorem dJ9_abs_0f7a4_1 : decode cJ9_abs_0f7a4 1 = .ok (.ifCond .ge 8, 3) := by decide +kernel
theorem dJ9_abs_0f7a4_4 : decode cJ9_abs_0f7a4 4 = .ok (.iload_n 0, 1) := by decide +kernel
theorem dJ9_abs_0f7a4_5 : decode cJ9_abs_0f7a4 5 = .ok (.ineg, 1) := by decide +kernel
theorem dJ9_abs_0f7a4_6 : decode cJ9_abs_0f7a4 6 = .ok (.goto 4, 3) := by decide +kernel
theorem dJ9_abs_0f7a4_9 : decode cJ9_abs_0f7a4 9 = .ok (.iload_n 0, 1) := by decide +kernel
theorem dJ9_abs_0f7a4_10 : decode cJ9_abs_0f7a4 10 = .ok (.ireturn, 1) := by decide +kernel
theorem dJ9_min_7cf53_0 : decode cJ9_min_7cf53 0 = .ok (.iload_n 0, 1) := by decide +kernel
theorem dJ9_min_7cf53_1 : decode cJ9_min_7cf53 1 = .ok (.iload_n 1, 1) := by decide +kernel
theorem dJ9_min_7cf53_2 : decode cJ9_min_7cf53 2 = .ok (.if_icmp .gt 7, 3) := by decide +kernel
theorem dJ9_min_7cf53_5 : decode cJ9_min_7cf53 5 = .ok (.iload_n 0, 1) := by decide +kernel
theorem dJ9_min_7cf53_6 : decode cJ9_min_7cf53 6 = .ok (.goto 4, 3) := by decide +kernel
theorem dJ9_min_7cf53_9 : decode cJ9_min_7cf53 9 = .ok (.iload_n 1, 1) := by decide +kernel
theorem dJ9_min_7cf53_10 : decode cJ9_min_7cf53 10 = .ok (.ireturn, 1) := by decide +kernel
end
section
theorem dX4_init_0 : decode cX4_init 0 = .ok (.aload_n 0, 1) := by decide +kernel
theorem dX4_init_1 : decode cX4_init 1 = .ok (.invokespecial 1, 3) := by decide +kernel
theorem dX4_init_4 : decode cX4_init 4 = .ok (.aload_n 0, 1) := by decide +kernel
theorem dX4_init_5 : decode cX4_init 5 = .ok (.new 7, 3) := by decide +kernel
theorem dX4_init_8 : decode cX4_init 8 = .ok (.dup, 1) := by decide +kernel
theorem dX4_init_9 : decode cX4_init 9 = .ok (.invokespecial 9, 3) := by decide +kernel
theorem dX4_init_12 : decode cX4_init 12 = .ok (.putfield 10, 3) := by decide +kernel
theorem dX4_init_15 : decode cX4_init 15 = .ok (.aload_n 0, 1) := by decide +kernel
theorem dX4_init_16 : decode cX4_init 16 = .ok (.new 7, 3) := by decide +kernel
theorem dX4_init_19 : decode cX4_init 19 = .ok (.dup, 1) := by decide +kernel
theorem dX4_init_20 : decode cX4_init 20 = .ok (.invokespecial 9, 3) := by decide +kernel
theorem dX4_init_23 : decode cX4_init 23 = .ok (.putfield 16, 3) := by decide +kernel
theorem dX4_init_26 : decode cX4_init 26 = .ok (.aload_n 0, 1) := by decide +kernel
theorem dX4_init_27 : decode cX4_init 27 = .ok (.new 19, 3) := by decide +kernel
theorem dX4_init_30 : decode cX4_init 30 = .ok (.dup, 1) := by decide +kernel
theorem dX4_init_31 : decode cX4_init 31 = .ok (.invokespecial 21, 3) := by decide +kernel
theorem dX4_init_34 : decode cX4_init 34 = .ok (.putfield 22, 3) := by decide +kernel
theorem dX4_init_37 : decode cX4_init 37 = .ok (.return_, 1) := by decide +kernel
set_option maxRecDepth 20000 in
theorem ggX4_addCar_X4_isFloor : GoodIn wsX4_addCar wsX4_isFloor := goodIn_r _ [8] (by decide +kernel) (by decide +kernel)
set_option maxRecDepth 20000 in
theorem gX4_addCar_X4_isFloor : GoodIn wsX4_addCar (va_wsS RX4 26 yX4_isFloor wsX4_isFloor) := goodIn_app (goodIn_of _ (by decide +kernel)) ggX4_addCar_X4_isFloor
set_option maxRecDepth 20000 in
theorem ggX4_addCar_X2_keep : GoodIn wsX4_addCar wsX2_keep := goodIn_r _ [13, 14, 15, 16, 17, 18, 19, 20, 21, 22, 23, 24, 25, 26, 27, 28, 29, 30, 31, 32, 33, 34, 35, 36, 37, 38, 39, 40, 41, 42, 43, 44, 45, 46, 47, 48, 49, 50, 51, 52, 53, 54, 55, 56, 57, 58, 59, 60, 61, 62, 63, 64, 65, 66, 86, 87, 88, 74, 75, 76, 77, 78, 79, 80, 81, 82, 83, 84, 85, 89, 90, 91, 92, 93, 94, 95, 96, 97] (by decide +kernel) (by decide +kernel)
set_option maxRecDepth 20000 in
theorem gX4_addCar_X2_keep : GoodIn wsX4_addCar (wsV RX4 40 RX2 yX2_keep wsX2_keep) := goodIn_app (goodIn_of _ (by decide +kernel)) ggX4_addCar_X2_keep
set_option maxRecDepth 20000 in
theorem ggX4_addCar_X1_add : GoodIn wsX4_addCar wsX1_add := goodIn_r _ [70, 39, 41, 43, 44, 45, 46, 47, 78, 79, 80, 81, 82, 83, 84, 85] (by decide +kernel) (by decide +kernel)
set_option maxRecDepth 20000 in
theorem gX4_addCar_X1_add : GoodIn wsX4_addCar (wsV RX4 44 RX1 yX1_add wsX1_add) := goodIn_app (goodIn_of _ (by decide +kernel)) ggX4_addCar_X1_add
theorem dX4_addCar_0 : decode cX4_addCar 0 = .ok (.iload_n 1, 1) := by decide +kernel
theorem dX4_addCar_1 : decode cX4_addCar 1 = .ok (.invokestatic 26, 3) := by decide +kernel
theorem dX4_addCar_4 : decode cX4_addCar 4 = .ok (.ifCond .eq 15, 3) := by decide +kernel
theorem dX4_addCar_7 : decode cX4_addCar 7 = .ok (.iload_n 2, 1) := by decide +kernel
theorem dX4_addCar_8 : decode cX4_addCar 8 = .ok (.invokestatic 26, 3) := by decide +kernel
theorem dX4_addCar_11 : decode cX4_addCar 11 = .ok (.ifCond .eq 8, 3) := by decide +kernel
theorem dX4_addCar_14 : decode cX4_addCar 14 = .ok (.iload_n 2, 1) := by decide +kernel
theorem dX4_addCar_15 : decode cX4_addCar 15 = .ok (.iload_n 1, 1) := by decide +kernel
theorem dX4_addCar_16 : decode cX4_addCar 16 = .ok (.if_icmp .gt 5, 3) := by decide +kernel
theorem dX4_addCar_19 : decode cX4_addCar 19 = .ok (.iconst (-1), 1) := by decide +kernel
theorem dX4_addCar_20 : decode cX4_addCar 20 = .ok (.ireturn, 1) := by decide +kernel
theorem dX4_addCar_21 : decode cX4_addCar 21 = .ok (.iload_n 3, 1) := by decide +kernel
theorem dX4_addCar_22 : decode cX4_addCar 22 = .ok (.iconst 1, 1) := by decide +kernel
theorem dX4_addCar_23 : decode cX4_addCar 23 = .ok (.if_icmp .lt 9, 3) := by decide +kernel
theorem dX4_addCar_26 : decode cX4_addCar 26 = .ok (.iload_n 3, 1) := by decide +kernel
theorem dX4_addCar_27 : decode cX4_addCar 27 = .ok (.bipush 8, 2) := by decide +kernel
theorem dX4_addCar_29 : decode cX4_addCar 29 = .ok (.if_icmp .le 5, 3) := by decide +kernel
theorem dX4_addCar_32 : decode cX4_addCar 32 = .ok (.iconst (-1), 1) := by decide +kernel
theorem dX4_addCar_33 : decode cX4_addCar 33 = .ok (.ireturn, 1) := by decide +kernel
theorem dX4_addCar_34 : decode cX4_addCar 34 = .ok (.aload_n 0, 1) := by decide +kernel
theorem dX4_addCar_35 : decode cX4_addCar 35 = .ok (.getfield 10, 3) := by decide +kernel
theorem dX4_addCar_38 : decode cX4_addCar 38 = .ok (.getfield 30, 3) := by decide +kernel
theorem dX4_addCar_41 : decode cX4_addCar 41 = .ok (.getfield 34, 3) := by decide +kernel
theorem dX4_addCar_44 : decode cX4_addCar 44 = .ok (.iconst 5, 1) := by decide +kernel
theorem dX4_addCar_45 : decode cX4_addCar 45 = .ok (.if_icmp .lt 6, 3) := by decide +kernel
theorem dX4_addCar_48 : decode cX4_addCar 48 = .ok (.bipush (-3), 2) := by decide +kernel
theorem dX4_addCar_50 : decode cX4_addCar 50 = .ok (.ireturn, 1) := by decide +kernel
theorem dX4_addCar_51 : decode cX4_addCar 51 = .ok (.aload_n 0, 1) := by decide +kernel
theorem dX4_addCar_52 : decode cX4_addCar 52 = .ok (.getfield 22, 3) := by decide +kernel
theorem dX4_addCar_55 : decode cX4_addCar 55 = .ok (.aload_n 0, 1) := by decide +kernel
theorem dX4_addCar_56 : decode cX4_addCar 56 = .ok (.getfield 10, 3) := by decide +kernel
theorem dX4_addCar_59 : decode cX4_addCar 59 = .ok (.invokevirtual 40, 3) := by decide +kernel
theorem dX4_addCar_62 : decode cX4_addCar 62 = .ok (.aload_n 0, 1) := by decide +kernel
theorem dX4_addCar_63 : decode cX4_addCar 63 = .ok (.getfield 10, 3) := by decide +kernel
theorem dX4_addCar_66 : decode cX4_addCar 66 = .ok (.getfield 30, 3) := by decide +kernel
theorem dX4_addCar_69 : decode cX4_addCar 69 = .ok (.iload_n 1, 1) := by decide +kernel
theorem dX4_addCar_70 : decode cX4_addCar 70 = .ok (.iload_n 2, 1) := by decide +kernel
theorem dX4_addCar_71 : decode cX4_addCar 71 = .ok (.iload_n 3, 1) := by decide +kernel
theorem dX4_addCar_72 : decode cX4_addCar 72 = .ok (.invokevirtual 44, 3) := by decide +kernel
theorem dX4_addCar_75 : decode cX4_addCar 75 = .ok (.ireturn, 1) := by decide +kernel
set_option maxRecDepth 20000 in
theorem ggX4_setAwake_X2_keep : GoodIn wsX4_setAwake wsX2_keep := goodIn_r _ [8, 9, 10, 11, 12, 13, 14, 15, 16, 17, 18, 19, 20, 21, 22, 23, 24, 25, 26, 27, 28, 29, 30, 31, 32, 33, 34, 35, 36, 37, 38, 39, 40, 41, 42, 43, 44, 45, 46, 47, 48, 49, 50, 51, 52, 53, 54, 55, 56, 57, 58, 59, 60, 61, 69, 70, 71, 65, 66, 67, 68, 72, 73, 74, 75, 76, 77, 78, 79, 80, 81, 82, 83, 84, 85, 86, 87, 88] (by decide +kernel) (by decide +kernel)
set_option maxRecDepth 20000 in
theorem gX4_setAwake_X2_keep : GoodIn wsX4_setAwake (wsV RX4 40 RX2 yX2_keep wsX2_keep) := goodIn_app (goodIn_of _ (by decide +kernel)) ggX4_setAwake_X2_keep
theorem dX4_setAwake_0 : decode cX4_setAwake 0 = .ok (.iload_n 1, 1) := by decide +kernel
theorem dX4_setAwake_1 : decode cX4_setAwake 1 = .ok (.ifCond .lt 19, 3) := by decide +kernel
theorem dX4_setAwake_4 : decode cX4_setAwake 4 = .ok (.iload_n 1, 1) := by decide +kernel
theorem dX4_setAwake_5 : decode cX4_setAwake 5 = .ok (.bipush 24, 2) := by decide +kernel
theorem dX4_setAwake_7 : decode cX4_setAwake 7 = .ok (.if_icmp .ge 13, 3) := by decide +kernel
theorem dX4_setAwake_10 : decode cX4_setAwake 10 = .ok (.iload_n 2, 1) := by decide +kernel
theorem dX4_setAwake_11 : decode cX4_setAwake 11 = .ok (.iconst 1, 1) := by decide +kernel
theorem dX4_setAwake_12 : decode cX4_setAwake 12 = .ok (.if_icmp .lt 8, 3) := by decide +kernel
theorem dX4_setAwake_15 : decode cX4_setAwake 15 = .ok (.iload_n 2, 1) := by decide +kernel
theorem dX4_setAwake_16 : decode cX4_setAwake 16 = .ok (.iconst 5, 1) := by decide +kernel
theorem dX4_setAwake_17 : decode cX4_setAwake 17 = .ok (.if_icmp .le 5, 3) := by decide +kernel
theorem dX4_setAwake_20 : decode cX4_setAwake 20 = .ok (.iconst (-1), 1) := by decide +kernel
theorem dX4_setAwake_21 : decode cX4_setAwake 21 = .ok (.ireturn, 1) := by decide +kernel
theorem dX4_setAwake_22 : decode cX4_setAwake 22 = .ok (.aload_n 0, 1) := by decide +kernel
theorem dX4_setAwake_23 : decode cX4_setAwake 23 = .ok (.getfield 22, 3) := by decide +kernel
theorem dX4_setAwake_26 : decode cX4_setAwake 26 = .ok (.aload_n 0, 1) := by decide +kernel
theorem dX4_setAwake_27 : decode cX4_setAwake 27 = .ok (.getfield 10, 3) := by decide +kernel
theorem dX4_setAwake_30 : decode cX4_setAwake 30 = .ok (.invokevirtual 40, 3) := by decide +kernel
theorem dX4_setAwake_33 : decode cX4_setAwake 33 = .ok (.aload_n 0, 1) := by decide +kernel
theorem dX4_setAwake_34 : decode cX4_setAwake 34 = .ok (.getfield 10, 3) := by decide +kernel
theorem dX4_setAwake_37 : decode cX4_setAwake 37 = .ok (.getfield 48, 3) := by decide +kernel
theorem dX4_setAwake_40 : decode cX4_setAwake 40 = .ok (.iload_n 1, 1) := by decide +kernel
theorem dX4_setAwake_41 : decode cX4_setAwake 41 = .ok (.iaload, 1) := by decide +kernel
theorem dX4_setAwake_42 : decode cX4_setAwake 42 = .ok (.istore_n 3, 1) := by decide +kernel
theorem dX4_setAwake_43 : decode cX4_setAwake 43 = .ok (.aload_n 0, 1) := by decide +kernel
theorem dX4_setAwake_44 : decode cX4_setAwake 44 = .ok (.getfield 10, 3) := by decide +kernel
theorem dX4_setAwake_47 : decode cX4_setAwake 47 = .ok (.getfield 48, 3) := by decide +kernel
theorem dX4_setAwake_50 : decode cX4_setAwake 50 = .ok (.iload_n 1, 1) := by decide +kernel
theorem dX4_setAwake_51 : decode cX4_setAwake 51 = .ok (.iload_n 2, 1) := by decide +kernel
theorem dX4_setAwake_52 : decode cX4_setAwake 52 = .ok (.iastore, 1) := by decide +kernel
theorem dX4_setAwake_53 : decode cX4_setAwake 53 = .ok (.iload_n 3, 1) := by decide +kernel
theorem dX4_setAwake_54 : decode cX4_setAwake 54 = .ok (.ireturn, 1) := by decide +kernel
set_option maxRecDepth 20000 in
theorem ggX4_hold_X1_has : GoodIn wsX4_hold wsX1_has := goodIn_r _ [10, 11, 83, 84, 85, 86, 87, 88, 89, 90] (by decide +kernel) (by decide +kernel)
set_option maxRecDepth 20000 in
theorem gX4_hold_X1_has : GoodIn wsX4_hold (wsV RX4 52 RX1 yX1_has wsX1_has) := goodIn_app (goodIn_of _ (by decide +kernel)) ggX4_hold_X1_has
set_option maxRecDepth 20000 in
theorem ggX4_hold_X2_keep : GoodIn wsX4_hold wsX2_keep := goodIn_r _ [16, 17, 18, 19, 20, 21, 22, 23, 24, 25, 26, 27, 28, 29, 30, 31, 32, 33, 34, 35, 36, 37, 38, 39, 9, 40, 11, 41, 42, 43, 44, 45, 46, 47, 48, 49, 50, 51, 52, 53, 54, 55, 56, 57, 58, 59, 60, 61, 62, 63, 64, 65, 66, 67, 91, 92, 93, 79, 80, 81, 82, 83, 84, 85, 86, 87, 88, 89, 90, 94, 95, 96, 97, 98, 99, 100, 101, 102] (by decide +kernel) (by decide +kernel)
set_option maxRecDepth 20000 in
theorem gX4_hold_X2_keep : GoodIn wsX4_hold (wsV RX4 40 RX2 yX2_keep wsX2_keep) := goodIn_app (goodIn_of _ (by decide +kernel)) ggX4_hold_X2_keep
set_option maxRecDepth 20000 in
theorem ggX4_hold_X0_numberWith : GoodIn wsX4_hold wsX0_numberWith := goodIn_r _ [71, 72, 73, 74, 52, 75, 54, 58, 59, 94, 95, 96, 97, 98, 99, 100, 101, 102] (by decide +kernel) (by decide +kernel)
set_option maxRecDepth 20000 in
theorem gX4_hold_X0_numberWith : GoodIn wsX4_hold (wsV RX4 62 RX0 yX0_numberWith wsX0_numberWith) := goodIn_app (goodIn_of _ (by decide +kernel)) ggX4_hold_X0_numberWith
theorem dX4_hold_0 : decode cX4_hold 0 = .ok (.aload_n 0, 1) := by decide +kernel
theorem dX4_hold_1 : decode cX4_hold 1 = .ok (.getfield 10, 3) := by decide +kernel
theorem dX4_hold_4 : decode cX4_hold 4 = .ok (.getfield 30, 3) := by decide +kernel
theorem dX4_hold_7 : decode cX4_hold 7 = .ok (.iload_n 1, 1) := by decide +kernel
theorem dX4_hold_8 : decode cX4_hold 8 = .ok (.invokevirtual 52, 3) := by decide +kernel
theorem dX4_hold_11 : decode cX4_hold 11 = .ok (.ifCond .eq 12, 3) := by decide +kernel
theorem dX4_hold_14 : decode cX4_hold 14 = .ok (.iload_n 2, 1) := by decide +kernel
theorem dX4_hold_15 : decode cX4_hold 15 = .ok (.ifCond .lt 8, 3) := by decide +kernel
theorem dX4_hold_18 : decode cX4_hold 18 = .ok (.iload_n 2, 1) := by decide +kernel
theorem dX4_hold_19 : decode cX4_hold 19 = .ok (.iconst 1, 1) := by decide +kernel
theorem dX4_hold_20 : decode cX4_hold 20 = .ok (.if_icmp .le 5, 3) := by decide +kernel
theorem dX4_hold_23 : decode cX4_hold 23 = .ok (.iconst (-1), 1) := by decide +kernel
theorem dX4_hold_24 : decode cX4_hold 24 = .ok (.ireturn, 1) := by decide +kernel
theorem dX4_hold_25 : decode cX4_hold 25 = .ok (.iload_n 2, 1) := by decide +kernel
theorem dX4_hold_26 : decode cX4_hold 26 = .ok (.iconst 1, 1) := by decide +kernel
theorem dX4_hold_27 : decode cX4_hold 27 = .ok (.if_icmp .ne 7, 3) := by decide +kernel
theorem dX4_hold_30 : decode cX4_hold 30 = .ok (.iconst 1, 1) := by decide +kernel
theorem dX4_hold_31 : decode cX4_hold 31 = .ok (.goto 4, 3) := by decide +kernel
theorem dX4_hold_34 : decode cX4_hold 34 = .ok (.iconst 0, 1) := by decide +kernel
theorem dX4_hold_35 : decode cX4_hold 35 = .ok (.istore_n 3, 1) := by decide +kernel
theorem dX4_hold_36 : decode cX4_hold 36 = .ok (.aload_n 0, 1) := by decide +kernel
theorem dX4_hold_37 : decode cX4_hold 37 = .ok (.getfield 10, 3) := by decide +kernel
theorem dX4_hold_40 : decode cX4_hold 40 = .ok (.getfield 30, 3) := by decide +kernel
theorem dX4_hold_43 : decode cX4_hold 43 = .ok (.getfield 55, 3) := by decide +kernel
theorem dX4_hold_46 : decode cX4_hold 46 = .ok (.iload_n 1, 1) := by decide +kernel
theorem dX4_hold_47 : decode cX4_hold 47 = .ok (.iaload, 1) := by decide +kernel
theorem dX4_hold_48 : decode cX4_hold 48 = .ok (.istore 4, 2) := by decide +kernel
theorem dX4_hold_50 : decode cX4_hold 50 = .ok (.iload 4, 2) := by decide +kernel
theorem dX4_hold_52 : decode cX4_hold 52 = .ok (.iconst 2, 1) := by decide +kernel
theorem dX4_hold_53 : decode cX4_hold 53 = .ok (.if_icmp .eq 9, 3) := by decide +kernel
theorem dX4_hold_56 : decode cX4_hold 56 = .ok (.iload 4, 2) := by decide +kernel
theorem dX4_hold_58 : decode cX4_hold 58 = .ok (.iload_n 3, 1) := by decide +kernel
theorem dX4_hold_59 : decode cX4_hold 59 = .ok (.if_icmp .ne 6, 3) := by decide +kernel
theorem dX4_hold_62 : decode cX4_hold 62 = .ok (.bipush (-2), 2) := by decide +kernel
theorem dX4_hold_64 : decode cX4_hold 64 = .ok (.ireturn, 1) := by decide +kernel
theorem dX4_hold_65 : decode cX4_hold 65 = .ok (.aload_n 0, 1) := by decide +kernel
theorem dX4_hold_66 : decode cX4_hold 66 = .ok (.getfield 22, 3) := by decide +kernel
theorem dX4_hold_69 : decode cX4_hold 69 = .ok (.aload_n 0, 1) := by decide +kernel
theorem dX4_hold_70 : decode cX4_hold 70 = .ok (.getfield 10, 3) := by decide +kernel
theorem dX4_hold_73 : decode cX4_hold 73 = .ok (.invokevirtual 40, 3) := by decide +kernel
theorem dX4_hold_76 : decode cX4_hold 76 = .ok (.aload_n 0, 1) := by decide +kernel
theorem dX4_hold_77 : decode cX4_hold 77 = .ok (.getfield 10, 3) := by decide +kernel
theorem dX4_hold_80 : decode cX4_hold 80 = .ok (.getfield 30, 3) := by decide +kernel
theorem dX4_hold_83 : decode cX4_hold 83 = .ok (.getfield 55, 3) := by decide +kernel
theorem dX4_hold_86 : decode cX4_hold 86 = .ok (.iload_n 1, 1) := by decide +kernel
theorem dX4_hold_87 : decode cX4_hold 87 = .ok (.iload_n 3, 1) := by decide +kernel
theorem dX4_hold_88 : decode cX4_hold 88 = .ok (.iastore, 1) := by decide +kernel
theorem dX4_hold_89 : decode cX4_hold 89 = .ok (.aload_n 0, 1) := by decide +kernel
theorem dX4_hold_90 : decode cX4_hold 90 = .ok (.getfield 10, 3) := by decide +kernel
theorem dX4_hold_93 : decode cX4_hold 93 = .ok (.getfield 58, 3) := by decide +kernel
theorem dX4_hold_96 : decode cX4_hold 96 = .ok (.iload_n 1, 1) := by decide +kernel
theorem dX4_hold_97 : decode cX4_hold 97 = .ok (.invokevirtual 62, 3) := by decide +kernel
theorem dX4_hold_100 : decode cX4_hold 100 = .ok (.ireturn, 1) := by decide +kernel
set_option maxRecDepth 20000 in
theorem ggX4_fail_X1_has : GoodIn wsX4_fail wsX1_has := goodIn_r _ [10, 11, 97, 98, 99, 100, 101, 102, 103, 104] (by decide +kernel) (by decide +kernel)
set_option maxRecDepth 20000 in
theorem gX4_fail_X1_has : GoodIn wsX4_fail (wsV RX4 52 RX1 yX1_has wsX1_has) := goodIn_app (goodIn_of _ (by decide +kernel)) ggX4_fail_X1_has
set_option maxRecDepth 20000 in
theorem ggX4_fail_X2_keep : GoodIn wsX4_fail wsX2_keep := goodIn_r _ [16, 17, 18, 19, 20, 21, 22, 23, 24, 25, 26, 27, 28, 29, 30, 31, 32, 33, 34, 35, 36, 37, 38, 39, 9, 40, 11, 41, 42, 43, 44, 45, 46, 47, 48, 49, 50, 51, 52, 53, 54, 55, 56, 57, 58, 59, 60, 61, 62, 63, 64, 65, 66, 67, 105, 106, 107, 93, 94, 95, 96, 97, 98, 99, 100, 101, 102, 103, 104, 108, 109, 110, 111, 112, 113, 114, 115, 116] (by decide +kernel) (by decide +kernel)
set_option maxRecDepth 20000 in
theorem gX4_fail_X2_keep : GoodIn wsX4_fail (wsV RX4 40 RX2 yX2_keep wsX2_keep) := goodIn_app (goodIn_of _ (by decide +kernel)) ggX4_fail_X2_keep
set_option maxRecDepth 20000 in
theorem ggX4_fail_X3_breakCar : GoodIn wsX4_fail wsX3_breakCar := goodIn_r _ [71, 35, 72, 36, 73, 29, 74, 75, 76, 52, 77, 54, 55, 57, 58, 62, 59, 78, 79, 80, 81, 82, 83, 84, 85, 93, 94, 95, 96, 97, 98, 99, 100, 101, 102, 103, 104, 108, 109, 110, 111, 112, 113, 114, 115, 116] (by decide +kernel) (by decide +kernel)
set_option maxRecDepth 20000 in
theorem gX4_fail_X3_breakCar : GoodIn wsX4_fail (wsV RX4 68 RX3 yX3_breakCar wsX3_breakCar) := goodIn_app (goodIn_of _ (by decide +kernel)) ggX4_fail_X3_breakCar
set_option maxRecDepth 20000 in
theorem ggX4_fail_X0_numberIn : GoodIn wsX4_fail wsX0_numberIn := goodIn_r _ [89, 54, 58, 108, 109, 110, 111, 112, 113, 114, 115, 116] (by decide +kernel) (by decide +kernel)
set_option maxRecDepth 20000 in
theorem gX4_fail_X0_numberIn : GoodIn wsX4_fail (wsV RX4 72 RX0 yX0_numberIn wsX0_numberIn) := goodIn_app (goodIn_of _ (by decide +kernel)) ggX4_fail_X0_numberIn
theorem dX4_fail_0 : decode cX4_fail 0 = .ok (.aload_n 0, 1) := by decide +kernel
theorem dX4_fail_1 : decode cX4_fail 1 = .ok (.getfield 10, 3) := by decide +kernel
theorem dX4_fail_4 : decode cX4_fail 4 = .ok (.getfield 30, 3) := by decide +kernel
theorem dX4_fail_7 : decode cX4_fail 7 = .ok (.iload_n 1, 1) := by decide +kernel
theorem dX4_fail_8 : decode cX4_fail 8 = .ok (.invokevirtual 52, 3) := by decide +kernel
theorem dX4_fail_11 : decode cX4_fail 11 = .ok (.ifCond .ne 5, 3) := by decide +kernel
theorem dX4_fail_14 : decode cX4_fail 14 = .ok (.iconst (-1), 1) := by decide +kernel
theorem dX4_fail_15 : decode cX4_fail 15 = .ok (.ireturn, 1) := by decide +kernel
theorem dX4_fail_16 : decode cX4_fail 16 = .ok (.aload_n 0, 1) := by decide +kernel
theorem dX4_fail_17 : decode cX4_fail 17 = .ok (.getfield 10, 3) := by decide +kernel
theorem dX4_fail_20 : decode cX4_fail 20 = .ok (.getfield 30, 3) := by decide +kernel
theorem dX4_fail_23 : decode cX4_fail 23 = .ok (.getfield 55, 3) := by decide +kernel
theorem dX4_fail_26 : decode cX4_fail 26 = .ok (.iload_n 1, 1) := by decide +kernel
theorem dX4_fail_27 : decode cX4_fail 27 = .ok (.iaload, 1) := by decide +kernel
theorem dX4_fail_28 : decode cX4_fail 28 = .ok (.iconst 2, 1) := by decide +kernel
theorem dX4_fail_29 : decode cX4_fail 29 = .ok (.if_icmp .ne 6, 3) := by decide +kernel
theorem dX4_fail_32 : decode cX4_fail 32 = .ok (.bipush (-2), 2) := by decide +kernel
theorem dX4_fail_34 : decode cX4_fail 34 = .ok (.ireturn, 1) := by decide +kernel
theorem dX4_fail_35 : decode cX4_fail 35 = .ok (.aload_n 0, 1) := by decide +kernel
theorem dX4_fail_36 : decode cX4_fail 36 = .ok (.getfield 22, 3) := by decide +kernel
theorem dX4_fail_39 : decode cX4_fail 39 = .ok (.aload_n 0, 1) := by decide +kernel
theorem dX4_fail_40 : decode cX4_fail 40 = .ok (.getfield 10, 3) := by decide +kernel
theorem dX4_fail_43 : decode cX4_fail 43 = .ok (.invokevirtual 40, 3) := by decide +kernel
theorem dX4_fail_46 : decode cX4_fail 46 = .ok (.aload_n 0, 1) := by decide +kernel
theorem dX4_fail_47 : decode cX4_fail 47 = .ok (.getfield 10, 3) := by decide +kernel
theorem dX4_fail_50 : decode cX4_fail 50 = .ok (.iload_n 1, 1) := by decide +kernel
theorem dX4_fail_51 : decode cX4_fail 51 = .ok (.invokevirtual 68, 3) := by decide +kernel
theorem dX4_fail_54 : decode cX4_fail 54 = .ok (.aload_n 0, 1) := by decide +kernel
theorem dX4_fail_55 : decode cX4_fail 55 = .ok (.getfield 10, 3) := by decide +kernel
theorem dX4_fail_58 : decode cX4_fail 58 = .ok (.getfield 58, 3) := by decide +kernel
theorem dX4_fail_61 : decode cX4_fail 61 = .ok (.iconst 0, 1) := by decide +kernel
theorem dX4_fail_62 : decode cX4_fail 62 = .ok (.invokevirtual 72, 3) := by decide +kernel
theorem dX4_fail_65 : decode cX4_fail 65 = .ok (.ireturn, 1) := by decide +kernel
set_option maxRecDepth 20000 in
theorem ggX4_repair_X1_has : GoodIn wsX4_repair wsX1_has := goodIn_r _ [10, 11, 75, 76, 77, 78, 79, 80, 81, 82] (by decide +kernel) (by decide +kernel)
set_option maxRecDepth 20000 in
theorem gX4_repair_X1_has : GoodIn wsX4_repair (wsV RX4 52 RX1 yX1_has wsX1_has) := goodIn_app (goodIn_of _ (by decide +kernel)) ggX4_repair_X1_has
set_option maxRecDepth 20000 in
theorem ggX4_repair_X2_keep : GoodIn wsX4_repair wsX2_keep := goodIn_r _ [16, 17, 18, 19, 20, 21, 22, 23, 24, 25, 26, 27, 28, 29, 30, 31, 32, 33, 34, 35, 36, 37, 38, 39, 9, 40, 11, 41, 42, 43, 44, 45, 46, 47, 48, 49, 50, 51, 52, 53, 54, 55, 56, 57, 58, 59, 60, 61, 62, 63, 64, 65, 66, 67, 83, 84, 85, 71, 72, 73, 74, 75, 76, 77, 78, 79, 80, 81, 82, 86, 87, 88, 89, 90, 91, 92, 93, 94] (by decide +kernel) (by decide +kernel)
set_option maxRecDepth 20000 in
theorem gX4_repair_X2_keep : GoodIn wsX4_repair (wsV RX4 40 RX2 yX2_keep wsX2_keep) := goodIn_app (goodIn_of _ (by decide +kernel)) ggX4_repair_X2_keep
theorem dX4_repair_0 : decode cX4_repair 0 = .ok (.aload_n 0, 1) := by decide +kernel
theorem dX4_repair_1 : decode cX4_repair 1 = .ok (.getfield 10, 3) := by decide +kernel
theorem dX4_repair_4 : decode cX4_repair 4 = .ok (.getfield 30, 3) := by decide +kernel
theorem dX4_repair_7 : decode cX4_repair 7 = .ok (.iload_n 1, 1) := by decide +kernel
theorem dX4_repair_8 : decode cX4_repair 8 = .ok (.invokevirtual 52, 3) := by decide +kernel
theorem dX4_repair_11 : decode cX4_repair 11 = .ok (.ifCond .ne 5, 3) := by decide +kernel
theorem dX4_repair_14 : decode cX4_repair 14 = .ok (.iconst (-1), 1) := by decide +kernel
theorem dX4_repair_15 : decode cX4_repair 15 = .ok (.ireturn, 1) := by decide +kernel
theorem dX4_repair_16 : decode cX4_repair 16 = .ok (.aload_n 0, 1) := by decide +kernel
theorem dX4_repair_17 : decode cX4_repair 17 = .ok (.getfield 10, 3) := by decide +kernel
theorem dX4_repair_20 : decode cX4_repair 20 = .ok (.getfield 30, 3) := by decide +kernel
theorem dX4_repair_23 : decode cX4_repair 23 = .ok (.getfield 55, 3) := by decide +kernel
theorem dX4_repair_26 : decode cX4_repair 26 = .ok (.iload_n 1, 1) := by decide +kernel
theorem dX4_repair_27 : decode cX4_repair 27 = .ok (.iaload, 1) := by decide +kernel
theorem dX4_repair_28 : decode cX4_repair 28 = .ok (.iconst 2, 1) := by decide +kernel
theorem dX4_repair_29 : decode cX4_repair 29 = .ok (.if_icmp .eq 6, 3) := by decide +kernel
theorem dX4_repair_32 : decode cX4_repair 32 = .ok (.bipush (-2), 2) := by decide +kernel
theorem dX4_repair_34 : decode cX4_repair 34 = .ok (.ireturn, 1) := by decide +kernel
theorem dX4_repair_35 : decode cX4_repair 35 = .ok (.aload_n 0, 1) := by decide +kernel
theorem dX4_repair_36 : decode cX4_repair 36 = .ok (.getfield 22, 3) := by decide +kernel
theorem dX4_repair_39 : decode cX4_repair 39 = .ok (.aload_n 0, 1) := by decide +kernel
theorem dX4_repair_40 : decode cX4_repair 40 = .ok (.getfield 10, 3) := by decide +kernel
theorem dX4_repair_43 : decode cX4_repair 43 = .ok (.invokevirtual 40, 3) := by decide +kernel
theorem dX4_repair_46 : decode cX4_repair 46 = .ok (.aload_n 0, 1) := by decide +kernel
theorem dX4_repair_47 : decode cX4_repair 47 = .ok (.getfield 10, 3) := by decide +kernel
theorem dX4_repair_50 : decode cX4_repair 50 = .ok (.getfield 30, 3) := by decide +kernel
theorem dX4_repair_53 : decode cX4_repair 53 = .ok (.getfield 55, 3) := by decide +kernel
theorem dX4_repair_56 : decode cX4_repair 56 = .ok (.iload_n 1, 1) := by decide +kernel
theorem dX4_repair_57 : decode cX4_repair 57 = .ok (.iconst 0, 1) := by decide +kernel
theorem dX4_repair_58 : decode cX4_repair 58 = .ok (.iastore, 1) := by decide +kernel
theorem dX4_repair_59 : decode cX4_repair 59 = .ok (.aload_n 0, 1) := by decide +kernel
theorem dX4_repair_60 : decode cX4_repair 60 = .ok (.getfield 10, 3) := by decide +kernel
theorem dX4_repair_63 : decode cX4_repair 63 = .ok (.getfield 30, 3) := by decide +kernel
theorem dX4_repair_66 : decode cX4_repair 66 = .ok (.getfield 75, 3) := by decide +kernel
theorem dX4_repair_69 : decode cX4_repair 69 = .ok (.iload_n 1, 1) := by decide +kernel
theorem dX4_repair_70 : decode cX4_repair 70 = .ok (.iaload, 1) := by decide +kernel
theorem dX4_repair_71 : decode cX4_repair 71 = .ok (.ireturn, 1) := by decide +kernel
set_option maxRecDepth 20000 in
theorem ggX4_call_X4_isWay : GoodIn wsX4_call wsX4_isWay := goodIn_r _ [9, 10, 11, 8, 12] (by decide +kernel) (by decide +kernel)
set_option maxRecDepth 20000 in
theorem gX4_call_X4_isWay : GoodIn wsX4_call (va_wsS RX4 78 yX4_isWay wsX4_isWay) := goodIn_app (goodIn_of _ (by decide +kernel)) ggX4_call_X4_isWay
set_option maxRecDepth 20000 in
theorem ggX4_call_X2_keep : GoodIn wsX4_call wsX2_keep := goodIn_r _ [17, 18, 19, 20, 21, 22, 23, 24, 25, 26, 27, 28, 29, 30, 31, 32, 33, 34, 35, 36, 37, 38, 39, 40, 41, 42, 43, 44, 45, 46, 47, 48, 49, 50, 51, 52, 53, 54, 55, 56, 57, 58, 59, 60, 61, 62, 63, 64, 65, 66, 67, 68, 69, 70, 157, 158, 159, 144, 145, 146, 147, 160, 161, 162, 163, 164, 165, 166, 167, 148, 149, 150, 151, 152, 153, 154, 155, 156] (by decide +kernel) (by decide +kernel)
set_option maxRecDepth 20000 in
theorem gX4_call_X2_keep : GoodIn wsX4_call (wsV RX4 40 RX2 yX2_keep wsX2_keep) := goodIn_app (goodIn_of _ (by decide +kernel)) ggX4_call_X2_keep
set_option maxRecDepth 20000 in
theorem ggX4_call_X3_bestCar : GoodIn wsX4_call wsX3_bestCar := goodIn_r _ [74, 36, 75, 76, 77, 78, 28, 79, 80, 81, 82, 83, 84, 31, 85, 86, 87, 88, 30, 89, 68, 69, 70, 90, 91, 92, 41, 93, 45, 47, 94, 95, 96, 97, 98, 99, 100, 23, 101, 37, 102, 103, 104, 55, 105, 57, 58, 60, 106, 107, 108, 109, 61, 62, 110, 111, 112, 113, 114, 115, 116, 117, 118, 119, 120, 121, 122, 123, 124, 125, 126, 127, 128, 144, 145, 146, 147, 160, 161, 162, 163, 164, 165, 166, 167, 148, 149, 150, 151, 152, 153, 154, 155, 156] (by decide +kernel) (by decide +kernel)
set_option maxRecDepth 20000 in
theorem gX4_call_X3_bestCar : GoodIn wsX4_call (wsV RX4 83 RX3 yX3_bestCar wsX3_bestCar) := goodIn_app (goodIn_of _ (by decide +kernel)) ggX4_call_X3_bestCar
set_option maxRecDepth 20000 in
theorem ggX4_call_X0_add : GoodIn wsX4_call wsX0_add := goodIn_r _ [132, 57, 58, 60, 61, 62, 63, 64, 65, 66, 148, 149, 150, 151, 152, 153, 154, 155, 156] (by decide +kernel) (by decide +kernel)
set_option maxRecDepth 20000 in
theorem gX4_call_X0_add : GoodIn wsX4_call (wsV RX4 90 RX0 yX0_add wsX0_add) := goodIn_app (goodIn_of _ (by decide +kernel)) ggX4_call_X0_add
set_option maxRecDepth 20000 in
theorem ggX4_call_X0_give : GoodIn wsX4_call wsX0_give := goodIn_r _ [136, 61, 62, 66, 137, 138, 139, 55, 140, 57, 148, 149, 150, 151, 152, 153, 154, 155, 156] (by decide +kernel) (by decide +kernel)
set_option maxRecDepth 20000 in
theorem gX4_call_X0_give : GoodIn wsX4_call (wsV RX4 91 RX0 yX0_give wsX0_give) := goodIn_app (goodIn_of _ (by decide +kernel)) ggX4_call_X0_give
theorem dX4_call_0 : decode cX4_call 0 = .ok (.iload_n 1, 1) := by decide +kernel
theorem dX4_call_1 : decode cX4_call 1 = .ok (.iload_n 2, 1) := by decide +kernel
theorem dX4_call_2 : decode cX4_call 2 = .ok (.invokestatic 78, 3) := by decide +kernel
theorem dX4_call_5 : decode cX4_call 5 = .ok (.ifCond .ne 5, 3) := by decide +kernel
theorem dX4_call_8 : decode cX4_call 8 = .ok (.iconst (-1), 1) := by decide +kernel
theorem dX4_call_9 : decode cX4_call 9 = .ok (.ireturn, 1) := by decide +kernel
theorem dX4_call_10 : decode cX4_call 10 = .ok (.aload_n 0, 1) := by decide +kernel
theorem dX4_call_11 : decode cX4_call 11 = .ok (.getfield 10, 3) := by decide +kernel
theorem dX4_call_14 : decode cX4_call 14 = .ok (.getfield 58, 3) := by decide +kernel
theorem dX4_call_17 : decode cX4_call 17 = .ok (.getfield 82, 3) := by decide +kernel
theorem dX4_call_20 : decode cX4_call 20 = .ok (.bipush 40, 2) := by decide +kernel
theorem dX4_call_22 : decode cX4_call 22 = .ok (.if_icmp .lt 6, 3) := by decide +kernel
theorem dX4_call_25 : decode cX4_call 25 = .ok (.bipush (-3), 2) := by decide +kernel
theorem dX4_call_27 : decode cX4_call 27 = .ok (.ireturn, 1) := by decide +kernel
theorem dX4_call_28 : decode cX4_call 28 = .ok (.aload_n 0, 1) := by decide +kernel
theorem dX4_call_29 : decode cX4_call 29 = .ok (.getfield 22, 3) := by decide +kernel
theorem dX4_call_32 : decode cX4_call 32 = .ok (.aload_n 0, 1) := by decide +kernel
theorem dX4_call_33 : decode cX4_call 33 = .ok (.getfield 10, 3) := by decide +kernel
theorem dX4_call_36 : decode cX4_call 36 = .ok (.invokevirtual 40, 3) := by decide +kernel
theorem dX4_call_39 : decode cX4_call 39 = .ok (.aload_n 0, 1) := by decide +kernel
theorem dX4_call_40 : decode cX4_call 40 = .ok (.getfield 10, 3) := by decide +kernel
theorem dX4_call_43 : decode cX4_call 43 = .ok (.iload_n 1, 1) := by decide +kernel
theorem dX4_call_44 : decode cX4_call 44 = .ok (.iload_n 2, 1) := by decide +kernel
theorem dX4_call_45 : decode cX4_call 45 = .ok (.invokevirtual 83, 3) := by decide +kernel
theorem dX4_call_48 : decode cX4_call 48 = .ok (.istore_n 3, 1) := by decide +kernel
theorem dX4_call_49 : decode cX4_call 49 = .ok (.aload_n 0, 1) := by decide +kernel
theorem dX4_call_50 : decode cX4_call 50 = .ok (.getfield 10, 3) := by decide +kernel
theorem dX4_call_53 : decode cX4_call 53 = .ok (.getfield 58, 3) := by decide +kernel
theorem dX4_call_56 : decode cX4_call 56 = .ok (.iload_n 1, 1) := by decide +kernel
theorem dX4_call_57 : decode cX4_call 57 = .ok (.iload_n 2, 1) := by decide +kernel
theorem dX4_call_58 : decode cX4_call 58 = .ok (.aload_n 0, 1) := by decide +kernel
theorem dX4_call_59 : decode cX4_call 59 = .ok (.getfield 10, 3) := by decide +kernel
theorem dX4_call_62 : decode cX4_call 62 = .ok (.getfield 87, 3) := by decide +kernel
theorem dX4_call_65 : decode cX4_call 65 = .ok (.invokevirtual 90, 3) := by decide +kernel
theorem dX4_call_68 : decode cX4_call 68 = .ok (.istore 4, 2) := by decide +kernel
theorem dX4_call_70 : decode cX4_call 70 = .ok (.aload_n 0, 1) := by decide +kernel
theorem dX4_call_71 : decode cX4_call 71 = .ok (.getfield 10, 3) := by decide +kernel
theorem dX4_call_74 : decode cX4_call 74 = .ok (.getfield 58, 3) := by decide +kernel
theorem dX4_call_77 : decode cX4_call 77 = .ok (.iload 4, 2) := by decide +kernel
theorem dX4_call_79 : decode cX4_call 79 = .ok (.iload_n 3, 1) := by decide +kernel
theorem dX4_call_80 : decode cX4_call 80 = .ok (.invokevirtual 91, 3) := by decide +kernel
theorem dX4_call_83 : decode cX4_call 83 = .ok (.iload 4, 2) := by decide +kernel
theorem dX4_call_85 : decode cX4_call 85 = .ok (.ireturn, 1) := by decide +kernel
set_option maxRecDepth 20000 in
theorem ggX4_pass_X2_keep : GoodIn wsX4_pass wsX2_keep := goodIn_r _ [9, 10, 11, 12, 13, 14, 15, 16, 17, 18, 19, 20, 21, 22, 23, 24, 25, 26, 27, 28, 29, 30, 31, 32, 33, 34, 35, 36, 37, 38, 39, 40, 41, 42, 43, 44, 45, 46, 47, 48, 49, 50, 51, 52, 53, 54, 55, 56, 57, 58, 59, 60, 61, 62, 174, 175, 176, 170, 171, 172, 173, 177, 178, 179, 180, 181, 182, 183, 184, 185, 186, 187, 188, 189, 190, 191, 192, 193] (by decide +kernel) (by decide +kernel)
set_option maxRecDepth 20000 in
theorem gX4_pass_X2_keep : GoodIn wsX4_pass (wsV RX4 40 RX2 yX2_keep wsX2_keep) := goodIn_app (goodIn_of _ (by decide +kernel)) ggX4_pass_X2_keep
set_option maxRecDepth 20000 in
theorem ggX4_pass_X3_oneTick : GoodIn wsX4_pass wsX3_oneTick := goodIn_r _ [66, 29, 67, 68, 69, 70, 28, 71, 72, 22, 73, 74, 75, 20, 76, 77, 78, 79, 80, 81, 82, 83, 84, 23, 85, 86, 87, 88, 89, 60, 61, 62, 90, 91, 92, 33, 93, 37, 39, 94, 95, 96, 97, 98, 99, 100, 15, 101, 102, 103, 104, 47, 105, 49, 50, 52, 106, 107, 108, 109, 53, 54, 110, 111, 112, 113, 114, 115, 116, 117, 118, 119, 120, 121, 122, 123, 124, 125, 126, 127, 128, 129, 130, 131, 132, 58, 133, 134, 135, 136, 137, 138, 139, 140, 141, 142, 143, 144, 145, 146, 57, 147, 148, 149, 150, 56, 151, 152, 153, 154, 155, 156, 157, 158, 159, 160, 161, 162, 41, 43, 170, 171, 172, 173, 185, 186, 187, 188, 189, 190, 191, 192, 193, 177, 178, 179, 180, 181, 182, 183, 184] (by decide +kernel) (by decide +kernel)
set_option maxRecDepth 20000 in
theorem gX4_pass_X3_oneTick : GoodIn wsX4_pass (wsV RX4 95 RX3 yX3_oneTick wsX3_oneTick) := goodIn_app (goodIn_of _ (by decide +kernel)) ggX4_pass_X3_oneTick
set_option maxRecDepth 20000 in
theorem ggX4_pass_X0_numberIn : GoodIn wsX4_pass wsX0_numberIn := goodIn_r _ [166, 49, 53, 185, 186, 187, 188, 189, 190, 191, 192, 193] (by decide +kernel) (by decide +kernel)
set_option maxRecDepth 20000 in
theorem gX4_pass_X0_numberIn : GoodIn wsX4_pass (wsV RX4 72 RX0 yX0_numberIn wsX0_numberIn) := goodIn_app (goodIn_of _ (by decide +kernel)) ggX4_pass_X0_numberIn
theorem dX4_pass_0 : decode cX4_pass 0 = .ok (.iload_n 1, 1) := by decide +kernel
theorem dX4_pass_1 : decode cX4_pass 1 = .ok (.iconst 1, 1) := by decide +kernel
theorem dX4_pass_2 : decode cX4_pass 2 = .ok (.if_icmp .lt 10, 3) := by decide +kernel
theorem dX4_pass_5 : decode cX4_pass 5 = .ok (.iload_n 1, 1) := by decide +kernel
theorem dX4_pass_6 : decode cX4_pass 6 = .ok (.sipush 200, 3) := by decide +kernel
theorem dX4_pass_9 : decode cX4_pass 9 = .ok (.if_icmp .le 5, 3) := by decide +kernel
theorem dX4_pass_12 : decode cX4_pass 12 = .ok (.iconst (-1), 1) := by decide +kernel
theorem dX4_pass_13 : decode cX4_pass 13 = .ok (.ireturn, 1) := by decide +kernel
theorem dX4_pass_14 : decode cX4_pass 14 = .ok (.aload_n 0, 1) := by decide +kernel
theorem dX4_pass_15 : decode cX4_pass 15 = .ok (.getfield 10, 3) := by decide +kernel
theorem dX4_pass_18 : decode cX4_pass 18 = .ok (.getfield 87, 3) := by decide +kernel
theorem dX4_pass_21 : decode cX4_pass 21 = .ok (.iload_n 1, 1) := by decide +kernel
theorem dX4_pass_22 : decode cX4_pass 22 = .ok (.iadd, 1) := by decide +kernel
theorem dX4_pass_23 : decode cX4_pass 23 = .ok (.sipush 20000, 3) := by decide +kernel
theorem dX4_pass_26 : decode cX4_pass 26 = .ok (.if_icmp .le 6, 3) := by decide +kernel
theorem dX4_pass_29 : decode cX4_pass 29 = .ok (.bipush (-2), 2) := by decide +kernel
theorem dX4_pass_31 : decode cX4_pass 31 = .ok (.ireturn, 1) := by decide +kernel
theorem dX4_pass_32 : decode cX4_pass 32 = .ok (.aload_n 0, 1) := by decide +kernel
theorem dX4_pass_33 : decode cX4_pass 33 = .ok (.getfield 22, 3) := by decide +kernel
theorem dX4_pass_36 : decode cX4_pass 36 = .ok (.aload_n 0, 1) := by decide +kernel
theorem dX4_pass_37 : decode cX4_pass 37 = .ok (.getfield 10, 3) := by decide +kernel
theorem dX4_pass_40 : decode cX4_pass 40 = .ok (.invokevirtual 40, 3) := by decide +kernel
theorem dX4_pass_43 : decode cX4_pass 43 = .ok (.iconst 0, 1) := by decide +kernel
theorem dX4_pass_44 : decode cX4_pass 44 = .ok (.istore_n 2, 1) := by decide +kernel
theorem dX4_pass_45 : decode cX4_pass 45 = .ok (.iload_n 2, 1) := by decide +kernel
theorem dX4_pass_46 : decode cX4_pass 46 = .ok (.iload_n 1, 1) := by decide +kernel
theorem dX4_pass_47 : decode cX4_pass 47 = .ok (.if_icmp .ge 16, 3) := by decide +kernel
theorem dX4_pass_50 : decode cX4_pass 50 = .ok (.aload_n 0, 1) := by decide +kernel
theorem dX4_pass_51 : decode cX4_pass 51 = .ok (.getfield 10, 3) := by decide +kernel
theorem dX4_pass_54 : decode cX4_pass 54 = .ok (.invokevirtual 95, 3) := by decide +kernel
theorem dX4_pass_57 : decode cX4_pass 57 = .ok (.iinc 2 1, 3) := by decide +kernel
theorem dX4_pass_60 : decode cX4_pass 60 = .ok (.goto (-15), 3) := by decide +kernel
theorem dX4_pass_63 : decode cX4_pass 63 = .ok (.aload_n 0, 1) := by decide +kernel
theorem dX4_pass_64 : decode cX4_pass 64 = .ok (.getfield 10, 3) := by decide +kernel
theorem dX4_pass_67 : decode cX4_pass 67 = .ok (.getfield 58, 3) := by decide +kernel
theorem dX4_pass_70 : decode cX4_pass 70 = .ok (.iconst 3, 1) := by decide +kernel
theorem dX4_pass_71 : decode cX4_pass 71 = .ok (.invokevirtual 72, 3) := by decide +kernel
theorem dX4_pass_74 : decode cX4_pass 74 = .ok (.ireturn, 1) := by decide +kernel
set_option maxRecDepth 20000 in
theorem ggX4_undo_X2_restore : GoodIn wsX4_undo wsX2_restore := goodIn_r _ [8, 9, 10, 11, 12, 13, 14, 15, 16, 17, 18, 19, 20, 21, 22, 23, 24, 25, 26, 27, 28, 29, 30, 31, 32, 33, 34, 35, 36, 37, 38, 39, 40, 41, 42, 43, 44, 45, 46, 47, 48, 49, 50, 51, 52, 53, 54, 55, 56, 57, 61, 62, 63, 64, 65, 66, 67, 68, 69, 70, 71, 72, 73, 74, 75, 76, 77, 78, 79, 80, 81, 82, 83, 84] (by decide +kernel) (by decide +kernel)
set_option maxRecDepth 20000 in
theorem gX4_undo_X2_restore : GoodIn wsX4_undo (wsV RX4 99 RX2 yX2_restore wsX2_restore) := goodIn_app (goodIn_of _ (by decide +kernel)) ggX4_undo_X2_restore
theorem dX4_undo_0 : decode cX4_undo 0 = .ok (.aload_n 0, 1) := by decide +kernel
theorem dX4_undo_1 : decode cX4_undo 1 = .ok (.getfield 22, 3) := by decide +kernel
theorem dX4_undo_4 : decode cX4_undo 4 = .ok (.getfield 98, 3) := by decide +kernel
theorem dX4_undo_7 : decode cX4_undo 7 = .ok (.iconst 1, 1) := by decide +kernel
theorem dX4_undo_8 : decode cX4_undo 8 = .ok (.if_icmp .ge 6, 3) := by decide +kernel
theorem dX4_undo_11 : decode cX4_undo 11 = .ok (.bipush (-2), 2) := by decide +kernel
theorem dX4_undo_13 : decode cX4_undo 13 = .ok (.ireturn, 1) := by decide +kernel
theorem dX4_undo_14 : decode cX4_undo 14 = .ok (.aload_n 0, 1) := by decide +kernel
theorem dX4_undo_15 : decode cX4_undo 15 = .ok (.getfield 22, 3) := by decide +kernel
theorem dX4_undo_18 : decode cX4_undo 18 = .ok (.aload_n 0, 1) := by decide +kernel
theorem dX4_undo_19 : decode cX4_undo 19 = .ok (.getfield 10, 3) := by decide +kernel
theorem dX4_undo_22 : decode cX4_undo 22 = .ok (.invokevirtual 99, 3) := by decide +kernel
theorem dX4_undo_25 : decode cX4_undo 25 = .ok (.aload_n 0, 1) := by decide +kernel
theorem dX4_undo_26 : decode cX4_undo 26 = .ok (.getfield 22, 3) := by decide +kernel
theorem dX4_undo_29 : decode cX4_undo 29 = .ok (.getfield 98, 3) := by decide +kernel
theorem dX4_undo_32 : decode cX4_undo 32 = .ok (.ireturn, 1) := by decide +kernel
set_option maxRecDepth 20000 in
theorem ggX4_count_X3_hour : GoodIn wsX4_count wsX3_hour := goodIn_r _ [14, 15, 16, 17, 18, 19, 60, 61, 62, 63] (by decide +kernel) (by decide +kernel)
set_option maxRecDepth 20000 in
theorem gX4_count_X3_hour : GoodIn wsX4_count (wsV RX4 102 RX3 yX3_hour wsX3_hour) := goodIn_app (goodIn_of _ (by decide +kernel)) ggX4_count_X3_hour
set_option maxRecDepth 20000 in
theorem ggX4_count_X0_numberIn : GoodIn wsX4_count wsX0_numberIn := goodIn_r _ [24, 25, 26, 72, 73, 74, 75, 76, 77, 78, 79, 80] (by decide +kernel) (by decide +kernel)
set_option maxRecDepth 20000 in
theorem gX4_count_X0_numberIn : GoodIn wsX4_count (wsV RX4 72 RX0 yX0_numberIn wsX0_numberIn) := goodIn_app (goodIn_of _ (by decide +kernel)) ggX4_count_X0_numberIn
set_option maxRecDepth 20000 in
theorem ggX4_count_X0_numberOfGroups : GoodIn wsX4_count wsX0_numberOfGroups := goodIn_r _ [30, 25, 31, 32, 33, 23, 34, 35, 36, 37, 38, 39, 40, 41, 42, 43, 44, 26, 72, 73, 74, 75, 76, 77, 78, 79, 80] (by decide +kernel) (by decide +kernel)
set_option maxRecDepth 20000 in
theorem gX4_count_X0_numberOfGroups : GoodIn wsX4_count (wsV RX4 106 RX0 yX0_numberOfGroups wsX0_numberOfGroups) := goodIn_app (goodIn_of _ (by decide +kernel)) ggX4_count_X0_numberOfGroups
set_option maxRecDepth 20000 in
theorem ggX4_count_X1_travelledByAll : GoodIn wsX4_count wsX1_travelledByAll := goodIn_r _ [49, 50, 51, 64, 65, 66, 67, 68, 69, 70, 71] (by decide +kernel) (by decide +kernel)
set_option maxRecDepth 20000 in
theorem gX4_count_X1_travelledByAll : GoodIn wsX4_count (wsV RX4 109 RX1 yX1_travelledByAll wsX1_travelledByAll) := goodIn_app (goodIn_of _ (by decide +kernel)) ggX4_count_X1_travelledByAll
set_option maxRecDepth 20000 in
theorem ggX4_count_X1_numberIn : GoodIn wsX4_count wsX1_numberIn := goodIn_r _ [55, 50, 56, 64, 65, 66, 67, 68, 69, 70, 71] (by decide +kernel) (by decide +kernel)
set_option maxRecDepth 20000 in
theorem gX4_count_X1_numberIn : GoodIn wsX4_count (wsV RX4 115 RX1 yX1_numberIn wsX1_numberIn) := goodIn_app (goodIn_of _ (by decide +kernel)) ggX4_count_X1_numberIn
theorem dX4_count_0 : decode cX4_count 0 = .ok (.iload_n 1, 1) := by decide +kernel
theorem dX4_count_1 : decode cX4_count 1 = .ok (.tableswitch 222 0 13 #[71, 79, 87, 98, 109, 121, 133, 145, 157, 168, 179, 190, 202, 214], 71) := by decide +kernel
theorem dX4_count_72 : decode cX4_count 72 = .ok (.aload_n 0, 1) := by decide +kernel
theorem dX4_count_73 : decode cX4_count 73 = .ok (.getfield 10, 3) := by decide +kernel
theorem dX4_count_76 : decode cX4_count 76 = .ok (.getfield 87, 3) := by decide +kernel
theorem dX4_count_79 : decode cX4_count 79 = .ok (.ireturn, 1) := by decide +kernel
theorem dX4_count_80 : decode cX4_count 80 = .ok (.aload_n 0, 1) := by decide +kernel
theorem dX4_count_81 : decode cX4_count 81 = .ok (.getfield 10, 3) := by decide +kernel
theorem dX4_count_84 : decode cX4_count 84 = .ok (.invokevirtual 102, 3) := by decide +kernel
theorem dX4_count_87 : decode cX4_count 87 = .ok (.ireturn, 1) := by decide +kernel
theorem dX4_count_88 : decode cX4_count 88 = .ok (.aload_n 0, 1) := by decide +kernel
theorem dX4_count_89 : decode cX4_count 89 = .ok (.getfield 10, 3) := by decide +kernel
theorem dX4_count_92 : decode cX4_count 92 = .ok (.getfield 30, 3) := by decide +kernel
theorem dX4_count_95 : decode cX4_count 95 = .ok (.getfield 34, 3) := by decide +kernel
theorem dX4_count_98 : decode cX4_count 98 = .ok (.ireturn, 1) := by decide +kernel
theorem dX4_count_99 : decode cX4_count 99 = .ok (.aload_n 0, 1) := by decide +kernel
theorem dX4_count_100 : decode cX4_count 100 = .ok (.getfield 10, 3) := by decide +kernel
theorem dX4_count_103 : decode cX4_count 103 = .ok (.getfield 58, 3) := by decide +kernel
theorem dX4_count_106 : decode cX4_count 106 = .ok (.getfield 82, 3) := by decide +kernel
theorem dX4_count_109 : decode cX4_count 109 = .ok (.ireturn, 1) := by decide +kernel
theorem dX4_count_110 : decode cX4_count 110 = .ok (.aload_n 0, 1) := by decide +kernel
theorem dX4_count_111 : decode cX4_count 111 = .ok (.getfield 10, 3) := by decide +kernel
theorem dX4_count_114 : decode cX4_count 114 = .ok (.getfield 58, 3) := by decide +kernel
theorem dX4_count_117 : decode cX4_count 117 = .ok (.iconst 0, 1) := by decide +kernel
theorem dX4_count_118 : decode cX4_count 118 = .ok (.invokevirtual 72, 3) := by decide +kernel
theorem dX4_count_121 : decode cX4_count 121 = .ok (.ireturn, 1) := by decide +kernel
theorem dX4_count_122 : decode cX4_count 122 = .ok (.aload_n 0, 1) := by decide +kernel
theorem dX4_count_123 : decode cX4_count 123 = .ok (.getfield 10, 3) := by decide +kernel
theorem dX4_count_126 : decode cX4_count 126 = .ok (.getfield 58, 3) := by decide +kernel
theorem dX4_count_129 : decode cX4_count 129 = .ok (.iconst 1, 1) := by decide +kernel
theorem dX4_count_130 : decode cX4_count 130 = .ok (.invokevirtual 72, 3) := by decide +kernel
theorem dX4_count_133 : decode cX4_count 133 = .ok (.ireturn, 1) := by decide +kernel
theorem dX4_count_134 : decode cX4_count 134 = .ok (.aload_n 0, 1) := by decide +kernel
theorem dX4_count_135 : decode cX4_count 135 = .ok (.getfield 10, 3) := by decide +kernel
theorem dX4_count_138 : decode cX4_count 138 = .ok (.getfield 58, 3) := by decide +kernel
theorem dX4_count_141 : decode cX4_count 141 = .ok (.iconst 2, 1) := by decide +kernel
theorem dX4_count_142 : decode cX4_count 142 = .ok (.invokevirtual 72, 3) := by decide +kernel
theorem dX4_count_145 : decode cX4_count 145 = .ok (.ireturn, 1) := by decide +kernel
theorem dX4_count_146 : decode cX4_count 146 = .ok (.aload_n 0, 1) := by decide +kernel
theorem dX4_count_147 : decode cX4_count 147 = .ok (.getfield 10, 3) := by decide +kernel
theorem dX4_count_150 : decode cX4_count 150 = .ok (.getfield 58, 3) := by decide +kernel
theorem dX4_count_153 : decode cX4_count 153 = .ok (.iconst 3, 1) := by decide +kernel
theorem dX4_count_154 : decode cX4_count 154 = .ok (.invokevirtual 72, 3) := by decide +kernel
theorem dX4_count_157 : decode cX4_count 157 = .ok (.ireturn, 1) := by decide +kernel
theorem dX4_count_158 : decode cX4_count 158 = .ok (.aload_n 0, 1) := by decide +kernel
theorem dX4_count_159 : decode cX4_count 159 = .ok (.getfield 10, 3) := by decide +kernel
theorem dX4_count_162 : decode cX4_count 162 = .ok (.getfield 58, 3) := by decide +kernel
theorem dX4_count_165 : decode cX4_count 165 = .ok (.invokevirtual 106, 3) := by decide +kernel
theorem dX4_count_168 : decode cX4_count 168 = .ok (.ireturn, 1) := by decide +kernel
theorem dX4_count_169 : decode cX4_count 169 = .ok (.aload_n 0, 1) := by decide +kernel
theorem dX4_count_170 : decode cX4_count 170 = .ok (.getfield 10, 3) := by decide +kernel
theorem dX4_count_173 : decode cX4_count 173 = .ok (.getfield 30, 3) := by decide +kernel
theorem dX4_count_176 : decode cX4_count 176 = .ok (.invokevirtual 109, 3) := by decide +kernel
theorem dX4_count_179 : decode cX4_count 179 = .ok (.ireturn, 1) := by decide +kernel
theorem dX4_count_180 : decode cX4_count 180 = .ok (.aload_n 0, 1) := by decide +kernel
theorem dX4_count_181 : decode cX4_count 181 = .ok (.getfield 10, 3) := by decide +kernel
theorem dX4_count_184 : decode cX4_count 184 = .ok (.getfield 30, 3) := by decide +kernel
theorem dX4_count_187 : decode cX4_count 187 = .ok (.getfield 112, 3) := by decide +kernel
theorem dX4_count_190 : decode cX4_count 190 = .ok (.ireturn, 1) := by decide +kernel
theorem dX4_count_191 : decode cX4_count 191 = .ok (.aload_n 0, 1) := by decide +kernel
theorem dX4_count_192 : decode cX4_count 192 = .ok (.getfield 10, 3) := by decide +kernel
theorem dX4_count_195 : decode cX4_count 195 = .ok (.getfield 30, 3) := by decide +kernel
theorem dX4_count_198 : decode cX4_count 198 = .ok (.iconst 1, 1) := by decide +kernel
theorem dX4_count_199 : decode cX4_count 199 = .ok (.invokevirtual 115, 3) := by decide +kernel
theorem dX4_count_202 : decode cX4_count 202 = .ok (.ireturn, 1) := by decide +kernel
theorem dX4_count_203 : decode cX4_count 203 = .ok (.aload_n 0, 1) := by decide +kernel
theorem dX4_count_204 : decode cX4_count 204 = .ok (.getfield 10, 3) := by decide +kernel
theorem dX4_count_207 : decode cX4_count 207 = .ok (.getfield 30, 3) := by decide +kernel
theorem dX4_count_210 : decode cX4_count 210 = .ok (.iconst 2, 1) := by decide +kernel
theorem dX4_count_211 : decode cX4_count 211 = .ok (.invokevirtual 115, 3) := by decide +kernel
theorem dX4_count_214 : decode cX4_count 214 = .ok (.ireturn, 1) := by decide +kernel
theorem dX4_count_215 : decode cX4_count 215 = .ok (.aload_n 0, 1) := by decide +kernel
theorem dX4_count_216 : decode cX4_count 216 = .ok (.getfield 22, 3) := by decide +kernel
theorem dX4_count_219 : decode cX4_count 219 = .ok (.getfield 98, 3) := by decide +kernel
theorem dX4_count_222 : decode cX4_count 222 = .ok (.ireturn, 1) := by decide +kernel
theorem dX4_count_223 : decode cX4_count 223 = .ok (.iconst (-1), 1) := by decide +kernel
theorem dX4_count_224 : decode cX4_count 224 = .ok (.ireturn, 1) := by decide +kernel
set_option maxRecDepth 20000 in
theorem ggX4_car_X1_has : GoodIn wsX4_car wsX1_has := goodIn_r _ [11, 12, 75, 76, 77, 78, 79, 80, 81, 82] (by decide +kernel) (by decide +kernel)
set_option maxRecDepth 20000 in
theorem gX4_car_X1_has : GoodIn wsX4_car (wsV RX4 52 RX1 yX1_has wsX1_has) := goodIn_app (goodIn_of _ (by decide +kernel)) ggX4_car_X1_has
set_option maxRecDepth 20000 in
theorem ggX4_car_X0_numberOf : GoodIn wsX4_car wsX0_numberOf := goodIn_r _ [17, 18, 19, 20, 83, 84, 85, 86, 87, 88, 89, 90, 91] (by decide +kernel) (by decide +kernel)
set_option maxRecDepth 20000 in
theorem gX4_car_X0_numberOf : GoodIn wsX4_car (wsV RX4 116 RX0 yX0_numberOf wsX0_numberOf) := goodIn_app (goodIn_of _ (by decide +kernel)) ggX4_car_X0_numberOf
set_option maxRecDepth 20000 in
theorem ggX4_car_X0_stopsOf : GoodIn wsX4_car wsX0_stopsOf := goodIn_r _ [24, 18, 25, 26, 27, 28, 29, 16, 30, 19, 20, 31, 32, 33, 34, 83, 84, 85, 86, 87, 88, 89, 90, 91] (by decide +kernel) (by decide +kernel)
set_option maxRecDepth 20000 in
theorem gX4_car_X0_stopsOf : GoodIn wsX4_car (wsV RX4 119 RX0 yX0_stopsOf wsX0_stopsOf) := goodIn_app (goodIn_of _ (by decide +kernel)) ggX4_car_X0_stopsOf
set_option maxRecDepth 20000 in
theorem ggX4_car_J6_bitCount_0f7a4 : GoodIn wsX4_car wsJ6_bitCount_0f7a4 := goodIn_r _ [38, 39, 40, 41] (by decide +kernel) (by decide +kernel)
set_option maxRecDepth 20000 in
theorem gX4_car_J6_bitCount_0f7a4 : GoodIn wsX4_car (va_wsS RX4 122 yJ6_bitCount_0f7a4 wsJ6_bitCount_0f7a4) := goodIn_app (goodIn_of _ (by decide +kernel)) ggX4_car_J6_bitCount_0f7a4
set_option maxRecDepth 20000 in
theorem ggX4_car_X0_aimOf : GoodIn wsX4_car wsX0_aimOf := goodIn_r _ [45, 18, 26, 25, 31, 32, 33, 16, 34, 19, 20, 46, 47, 48, 49, 50, 51, 52, 27, 28, 29, 30, 83, 84, 85, 86, 87, 88, 89, 90, 91] (by decide +kernel) (by decide +kernel)
set_option maxRecDepth 20000 in
theorem gX4_car_X0_aimOf : GoodIn wsX4_car (wsV RX4 127 RX0 yX0_aimOf wsX0_aimOf) := goodIn_app (goodIn_of _ (by decide +kernel)) ggX4_car_X0_aimOf
set_option maxRecDepth 20000 in
theorem ggX4_car_X3_isAwake : GoodIn wsX4_car wsX3_isAwake := goodIn_r _ [57, 58, 59, 60, 61, 56, 62, 63, 64, 65, 66, 67, 71, 72, 73, 74] (by decide +kernel) (by decide +kernel)
set_option maxRecDepth 20000 in
theorem gX4_car_X3_isAwake : GoodIn wsX4_car (wsV RX4 133 RX3 yX3_isAwake wsX3_isAwake) := goodIn_app (goodIn_of _ (by decide +kernel)) ggX4_car_X3_isAwake
theorem dX4_car_0 : decode cX4_car 0 = .ok (.aload_n 0, 1) := by decide +kernel
theorem dX4_car_1 : decode cX4_car 1 = .ok (.getfield 10, 3) := by decide +kernel
theorem dX4_car_4 : decode cX4_car 4 = .ok (.getfield 30, 3) := by decide +kernel
theorem dX4_car_7 : decode cX4_car 7 = .ok (.iload_n 1, 1) := by decide +kernel
theorem dX4_car_8 : decode cX4_car 8 = .ok (.invokevirtual 52, 3) := by decide +kernel
theorem dX4_car_11 : decode cX4_car 11 = .ok (.ifCond .ne 5, 3) := by decide +kernel
theorem dX4_car_14 : decode cX4_car 14 = .ok (.iconst (-1), 1) := by decide +kernel
theorem dX4_car_15 : decode cX4_car 15 = .ok (.ireturn, 1) := by decide +kernel
theorem dX4_car_16 : decode cX4_car 16 = .ok (.iload_n 2, 1) := by decide +kernel
theorem dX4_car_17 : decode cX4_car 17 = .ok (.tableswitch 168 0 7 #[47, 60, 73, 86, 99, 114, 138, 151], 47) := by decide +kernel
theorem dX4_car_64 : decode cX4_car 64 = .ok (.aload_n 0, 1) := by decide +kernel
theorem dX4_car_65 : decode cX4_car 65 = .ok (.getfield 10, 3) := by decide +kernel
theorem dX4_car_68 : decode cX4_car 68 = .ok (.getfield 30, 3) := by decide +kernel
theorem dX4_car_71 : decode cX4_car 71 = .ok (.getfield 75, 3) := by decide +kernel
theorem dX4_car_74 : decode cX4_car 74 = .ok (.iload_n 1, 1) := by decide +kernel
theorem dX4_car_75 : decode cX4_car 75 = .ok (.iaload, 1) := by decide +kernel
theorem dX4_car_76 : decode cX4_car 76 = .ok (.ireturn, 1) := by decide +kernel
theorem dX4_car_77 : decode cX4_car 77 = .ok (.aload_n 0, 1) := by decide +kernel
theorem dX4_car_78 : decode cX4_car 78 = .ok (.getfield 10, 3) := by decide +kernel
theorem dX4_car_81 : decode cX4_car 81 = .ok (.getfield 30, 3) := by decide +kernel
theorem dX4_car_84 : decode cX4_car 84 = .ok (.getfield 55, 3) := by decide +kernel
theorem dX4_car_87 : decode cX4_car 87 = .ok (.iload_n 1, 1) := by decide +kernel
theorem dX4_car_88 : decode cX4_car 88 = .ok (.iaload, 1) := by decide +kernel
theorem dX4_car_89 : decode cX4_car 89 = .ok (.ireturn, 1) := by decide +kernel
theorem dX4_car_90 : decode cX4_car 90 = .ok (.aload_n 0, 1) := by decide +kernel
theorem dX4_car_91 : decode cX4_car 91 = .ok (.getfield 10, 3) := by decide +kernel
theorem dX4_car_94 : decode cX4_car 94 = .ok (.getfield 58, 3) := by decide +kernel
theorem dX4_car_97 : decode cX4_car 97 = .ok (.iload_n 1, 1) := by decide +kernel
theorem dX4_car_98 : decode cX4_car 98 = .ok (.iconst 2, 1) := by decide +kernel
theorem dX4_car_99 : decode cX4_car 99 = .ok (.invokevirtual 116, 3) := by decide +kernel
theorem dX4_car_102 : decode cX4_car 102 = .ok (.ireturn, 1) := by decide +kernel
theorem dX4_car_103 : decode cX4_car 103 = .ok (.aload_n 0, 1) := by decide +kernel
theorem dX4_car_104 : decode cX4_car 104 = .ok (.getfield 10, 3) := by decide +kernel
theorem dX4_car_107 : decode cX4_car 107 = .ok (.getfield 58, 3) := by decide +kernel
theorem dX4_car_110 : decode cX4_car 110 = .ok (.iload_n 1, 1) := by decide +kernel
theorem dX4_car_111 : decode cX4_car 111 = .ok (.iconst 1, 1) := by decide +kernel
theorem dX4_car_112 : decode cX4_car 112 = .ok (.invokevirtual 116, 3) := by decide +kernel
theorem dX4_car_115 : decode cX4_car 115 = .ok (.ireturn, 1) := by decide +kernel
theorem dX4_car_116 : decode cX4_car 116 = .ok (.aload_n 0, 1) := by decide +kernel
theorem dX4_car_117 : decode cX4_car 117 = .ok (.getfield 10, 3) := by decide +kernel
theorem dX4_car_120 : decode cX4_car 120 = .ok (.getfield 58, 3) := by decide +kernel
theorem dX4_car_123 : decode cX4_car 123 = .ok (.iload_n 1, 1) := by decide +kernel
theorem dX4_car_124 : decode cX4_car 124 = .ok (.invokevirtual 119, 3) := by decide +kernel
theorem dX4_car_127 : decode cX4_car 127 = .ok (.invokestatic 122, 3) := by decide +kernel
theorem dX4_car_130 : decode cX4_car 130 = .ok (.ireturn, 1) := by decide +kernel
theorem dX4_car_131 : decode cX4_car 131 = .ok (.aload_n 0, 1) := by decide +kernel
theorem dX4_car_132 : decode cX4_car 132 = .ok (.getfield 10, 3) := by decide +kernel
theorem dX4_car_135 : decode cX4_car 135 = .ok (.getfield 58, 3) := by decide +kernel
theorem dX4_car_138 : decode cX4_car 138 = .ok (.iload_n 1, 1) := by decide +kernel
theorem dX4_car_139 : decode cX4_car 139 = .ok (.aload_n 0, 1) := by decide +kernel
theorem dX4_car_140 : decode cX4_car 140 = .ok (.getfield 10, 3) := by decide +kernel
theorem dX4_car_143 : decode cX4_car 143 = .ok (.getfield 30, 3) := by decide +kernel
theorem dX4_car_146 : decode cX4_car 146 = .ok (.getfield 75, 3) := by decide +kernel
theorem dX4_car_149 : decode cX4_car 149 = .ok (.iload_n 1, 1) := by decide +kernel
theorem dX4_car_150 : decode cX4_car 150 = .ok (.iaload, 1) := by decide +kernel
theorem dX4_car_151 : decode cX4_car 151 = .ok (.invokevirtual 127, 3) := by decide +kernel
theorem dX4_car_154 : decode cX4_car 154 = .ok (.ireturn, 1) := by decide +kernel
theorem dX4_car_155 : decode cX4_car 155 = .ok (.aload_n 0, 1) := by decide +kernel
theorem dX4_car_156 : decode cX4_car 156 = .ok (.getfield 10, 3) := by decide +kernel
theorem dX4_car_159 : decode cX4_car 159 = .ok (.getfield 30, 3) := by decide +kernel
theorem dX4_car_162 : decode cX4_car 162 = .ok (.getfield 130, 3) := by decide +kernel
theorem dX4_car_165 : decode cX4_car 165 = .ok (.iload_n 1, 1) := by decide +kernel
theorem dX4_car_166 : decode cX4_car 166 = .ok (.iaload, 1) := by decide +kernel
theorem dX4_car_167 : decode cX4_car 167 = .ok (.ireturn, 1) := by decide +kernel
theorem dX4_car_168 : decode cX4_car 168 = .ok (.aload_n 0, 1) := by decide +kernel
theorem dX4_car_169 : decode cX4_car 169 = .ok (.getfield 10, 3) := by decide +kernel
theorem dX4_car_172 : decode cX4_car 172 = .ok (.iload_n 1, 1) := by decide +kernel
theorem dX4_car_173 : decode cX4_car 173 = .ok (.invokevirtual 133, 3) := by decide +kernel
theorem dX4_car_176 : decode cX4_car 176 = .ok (.ifCond .eq 7, 3) := by decide +kernel
theorem dX4_car_179 : decode cX4_car 179 = .ok (.iconst 1, 1) := by decide +kernel
theorem dX4_car_180 : decode cX4_car 180 = .ok (.goto 4, 3) := by decide +kernel
theorem dX4_car_183 : decode cX4_car 183 = .ok (.iconst 0, 1) := by decide +kernel
theorem dX4_car_184 : decode cX4_car 184 = .ok (.ireturn, 1) := by decide +kernel
theorem dX4_car_185 : decode cX4_car 185 = .ok (.iconst (-1), 1) := by decide +kernel
theorem dX4_car_186 : decode cX4_car 186 = .ok (.ireturn, 1) := by decide +kernel
set_option maxRecDepth 20000 in
theorem ggX4_caller_X0_has : GoodIn wsX4_caller wsX0_has := goodIn_r _ [15, 16, 24, 25, 26, 27, 28, 29, 30, 31, 32] (by decide +kernel) (by decide +kernel)
set_option maxRecDepth 20000 in
theorem gX4_caller_X0_has : GoodIn wsX4_caller (wsV RX4 136 RX0 yX0_has wsX0_has) := goodIn_app (goodIn_of _ (by decide +kernel)) ggX4_caller_X0_has
theorem dX4_caller_0 : decode cX4_caller 0 = .ok (.aload_n 0, 1) := by decide +kernel
theorem dX4_caller_1 : decode cX4_caller 1 = .ok (.getfield 10, 3) := by decide +kernel
theorem dX4_caller_4 : decode cX4_caller 4 = .ok (.getfield 58, 3) := by decide +kernel
theorem dX4_caller_7 : decode cX4_caller 7 = .ok (.iload_n 1, 1) := by decide +kernel
theorem dX4_caller_8 : decode cX4_caller 8 = .ok (.invokevirtual 136, 3) := by decide +kernel
theorem dX4_caller_11 : decode cX4_caller 11 = .ok (.ifCond .ne 5, 3) := by decide +kernel
theorem dX4_caller_14 : decode cX4_caller 14 = .ok (.iconst (-1), 1) := by decide +kernel
theorem dX4_caller_15 : decode cX4_caller 15 = .ok (.ireturn, 1) := by decide +kernel
theorem dX4_caller_16 : decode cX4_caller 16 = .ok (.iload_n 2, 1) := by decide +kernel
theorem dX4_caller_17 : decode cX4_caller 17 = .ok (.tableswitch 151 0 7 #[47, 60, 73, 86, 99, 112, 125, 138], 47) := by decide +kernel
theorem dX4_caller_64 : decode cX4_caller 64 = .ok (.aload_n 0, 1) := by decide +kernel
theorem dX4_caller_65 : decode cX4_caller 65 = .ok (.getfield 10, 3) := by decide +kernel
theorem dX4_caller_68 : decode cX4_caller 68 = .ok (.getfield 58, 3) := by decide +kernel
theorem dX4_caller_71 : decode cX4_caller 71 = .ok (.getfield 137, 3) := by decide +kernel
theorem dX4_caller_74 : decode cX4_caller 74 = .ok (.iload_n 1, 1) := by decide +kernel
theorem dX4_caller_75 : decode cX4_caller 75 = .ok (.iaload, 1) := by decide +kernel
theorem dX4_caller_76 : decode cX4_caller 76 = .ok (.ireturn, 1) := by decide +kernel
theorem dX4_caller_77 : decode cX4_caller 77 = .ok (.aload_n 0, 1) := by decide +kernel
theorem dX4_caller_78 : decode cX4_caller 78 = .ok (.getfield 10, 3) := by decide +kernel
theorem dX4_caller_81 : decode cX4_caller 81 = .ok (.getfield 58, 3) := by decide +kernel
theorem dX4_caller_84 : decode cX4_caller 84 = .ok (.getfield 138, 3) := by decide +kernel
theorem dX4_caller_87 : decode cX4_caller 87 = .ok (.iload_n 1, 1) := by decide +kernel
theorem dX4_caller_88 : decode cX4_caller 88 = .ok (.iaload, 1) := by decide +kernel
theorem dX4_caller_89 : decode cX4_caller 89 = .ok (.ireturn, 1) := by decide +kernel
theorem dX4_caller_90 : decode cX4_caller 90 = .ok (.aload_n 0, 1) := by decide +kernel
theorem dX4_caller_91 : decode cX4_caller 91 = .ok (.getfield 10, 3) := by decide +kernel
theorem dX4_caller_94 : decode cX4_caller 94 = .ok (.getfield 58, 3) := by decide +kernel
theorem dX4_caller_97 : decode cX4_caller 97 = .ok (.getfield 141, 3) := by decide +kernel
theorem dX4_caller_100 : decode cX4_caller 100 = .ok (.iload_n 1, 1) := by decide +kernel
theorem dX4_caller_101 : decode cX4_caller 101 = .ok (.iaload, 1) := by decide +kernel
theorem dX4_caller_102 : decode cX4_caller 102 = .ok (.ireturn, 1) := by decide +kernel
theorem dX4_caller_103 : decode cX4_caller 103 = .ok (.aload_n 0, 1) := by decide +kernel
theorem dX4_caller_104 : decode cX4_caller 104 = .ok (.getfield 10, 3) := by decide +kernel
theorem dX4_caller_107 : decode cX4_caller 107 = .ok (.getfield 58, 3) := by decide +kernel
theorem dX4_caller_110 : decode cX4_caller 110 = .ok (.getfield 144, 3) := by decide +kernel
theorem dX4_caller_113 : decode cX4_caller 113 = .ok (.iload_n 1, 1) := by decide +kernel
theorem dX4_caller_114 : decode cX4_caller 114 = .ok (.iaload, 1) := by decide +kernel
theorem dX4_caller_115 : decode cX4_caller 115 = .ok (.ireturn, 1) := by decide +kernel
theorem dX4_caller_116 : decode cX4_caller 116 = .ok (.aload_n 0, 1) := by decide +kernel
theorem dX4_caller_117 : decode cX4_caller 117 = .ok (.getfield 10, 3) := by decide +kernel
theorem dX4_caller_120 : decode cX4_caller 120 = .ok (.getfield 58, 3) := by decide +kernel
theorem dX4_caller_123 : decode cX4_caller 123 = .ok (.getfield 147, 3) := by decide +kernel
theorem dX4_caller_126 : decode cX4_caller 126 = .ok (.iload_n 1, 1) := by decide +kernel
theorem dX4_caller_127 : decode cX4_caller 127 = .ok (.iaload, 1) := by decide +kernel
theorem dX4_caller_128 : decode cX4_caller 128 = .ok (.ireturn, 1) := by decide +kernel
theorem dX4_caller_129 : decode cX4_caller 129 = .ok (.aload_n 0, 1) := by decide +kernel
theorem dX4_caller_130 : decode cX4_caller 130 = .ok (.getfield 10, 3) := by decide +kernel
theorem dX4_caller_133 : decode cX4_caller 133 = .ok (.getfield 58, 3) := by decide +kernel
theorem dX4_caller_136 : decode cX4_caller 136 = .ok (.getfield 150, 3) := by decide +kernel
theorem dX4_caller_139 : decode cX4_caller 139 = .ok (.iload_n 1, 1) := by decide +kernel
theorem dX4_caller_140 : decode cX4_caller 140 = .ok (.iaload, 1) := by decide +kernel
theorem dX4_caller_141 : decode cX4_caller 141 = .ok (.ireturn, 1) := by decide +kernel
theorem dX4_caller_142 : decode cX4_caller 142 = .ok (.aload_n 0, 1) := by decide +kernel
theorem dX4_caller_143 : decode cX4_caller 143 = .ok (.getfield 10, 3) := by decide +kernel
theorem dX4_caller_146 : decode cX4_caller 146 = .ok (.getfield 58, 3) := by decide +kernel
theorem dX4_caller_149 : decode cX4_caller 149 = .ok (.getfield 153, 3) := by decide +kernel
theorem dX4_caller_152 : decode cX4_caller 152 = .ok (.iload_n 1, 1) := by decide +kernel
theorem dX4_caller_153 : decode cX4_caller 153 = .ok (.iaload, 1) := by decide +kernel
theorem dX4_caller_154 : decode cX4_caller 154 = .ok (.ireturn, 1) := by decide +kernel
theorem dX4_caller_155 : decode cX4_caller 155 = .ok (.aload_n 0, 1) := by decide +kernel
theorem dX4_caller_156 : decode cX4_caller 156 = .ok (.getfield 10, 3) := by decide +kernel
theorem dX4_caller_159 : decode cX4_caller 159 = .ok (.getfield 58, 3) := by decide +kernel
theorem dX4_caller_162 : decode cX4_caller 162 = .ok (.getfield 156, 3) := by decide +kernel
theorem dX4_caller_165 : decode cX4_caller 165 = .ok (.iload_n 1, 1) := by decide +kernel
theorem dX4_caller_166 : decode cX4_caller 166 = .ok (.iaload, 1) := by decide +kernel
theorem dX4_caller_167 : decode cX4_caller 167 = .ok (.ireturn, 1) := by decide +kernel
theorem dX4_caller_168 : decode cX4_caller 168 = .ok (.iconst (-1), 1) := by decide +kernel
theorem dX4_caller_169 : decode cX4_caller 169 = .ok (.ireturn, 1) := by decide +kernel
set_option maxRecDepth 20000 in
theorem ggX4_group_X0_firstOfGroup : GoodIn wsX4_group wsX0_firstOfGroup := goodIn_r _ [9, 10, 11, 12, 13, 8, 14, 15, 16, 17, 18, 19, 20, 21, 22, 23, 24, 25, 41, 42, 43, 44, 45, 46, 47, 48, 49] (by decide +kernel) (by decide +kernel)
set_option maxRecDepth 20000 in
theorem gX4_group_X0_firstOfGroup : GoodIn wsX4_group (wsV RX4 159 RX0 yX0_firstOfGroup wsX0_firstOfGroup) := goodIn_app (goodIn_of _ (by decide +kernel)) ggX4_group_X0_firstOfGroup
set_option maxRecDepth 20000 in
theorem ggX4_group_X0_has : GoodIn wsX4_group wsX0_has := goodIn_r _ [29, 10, 41, 42, 43, 44, 45, 46, 47, 48, 49] (by decide +kernel) (by decide +kernel)
set_option maxRecDepth 20000 in
theorem gX4_group_X0_has : GoodIn wsX4_group (wsV RX4 136 RX0 yX0_has wsX0_has) := goodIn_app (goodIn_of _ (by decide +kernel)) ggX4_group_X0_has
set_option maxRecDepth 20000 in
theorem ggX4_group_X0_sizeOfGroup : GoodIn wsX4_group wsX0_sizeOfGroup := goodIn_r _ [33, 10, 15, 16, 17, 8, 18, 19, 20, 21, 22, 23, 24, 25, 41, 42, 43, 44, 45, 46, 47, 48, 49] (by decide +kernel) (by decide +kernel)
set_option maxRecDepth 20000 in
theorem gX4_group_X0_sizeOfGroup : GoodIn wsX4_group (wsV RX4 162 RX0 yX0_sizeOfGroup wsX0_sizeOfGroup) := goodIn_app (goodIn_of _ (by decide +kernel)) ggX4_group_X0_sizeOfGroup
theorem dX4_group_0 : decode cX4_group 0 = .ok (.iload_n 1, 1) := by decide +kernel
theorem dX4_group_1 : decode cX4_group 1 = .ok (.ifCond .lt 12, 3) := by decide +kernel
theorem dX4_group_4 : decode cX4_group 4 = .ok (.iload_n 2, 1) := by decide +kernel
theorem dX4_group_5 : decode cX4_group 5 = .ok (.ifCond .lt 8, 3) := by decide +kernel
theorem dX4_group_8 : decode cX4_group 8 = .ok (.iload_n 2, 1) := by decide +kernel
theorem dX4_group_9 : decode cX4_group 9 = .ok (.iconst 3, 1) := by decide +kernel
theorem dX4_group_10 : decode cX4_group 10 = .ok (.if_icmp .le 5, 3) := by decide +kernel
theorem dX4_group_13 : decode cX4_group 13 = .ok (.iconst (-1), 1) := by decide +kernel
theorem dX4_group_14 : decode cX4_group 14 = .ok (.ireturn, 1) := by decide +kernel
theorem dX4_group_15 : decode cX4_group 15 = .ok (.aload_n 0, 1) := by decide +kernel
theorem dX4_group_16 : decode cX4_group 16 = .ok (.getfield 10, 3) := by decide +kernel
theorem dX4_group_19 : decode cX4_group 19 = .ok (.getfield 58, 3) := by decide +kernel
theorem dX4_group_22 : decode cX4_group 22 = .ok (.iload_n 1, 1) := by decide +kernel
theorem dX4_group_23 : decode cX4_group 23 = .ok (.invokevirtual 159, 3) := by decide +kernel
theorem dX4_group_26 : decode cX4_group 26 = .ok (.istore_n 3, 1) := by decide +kernel
theorem dX4_group_27 : decode cX4_group 27 = .ok (.aload_n 0, 1) := by decide +kernel
theorem dX4_group_28 : decode cX4_group 28 = .ok (.getfield 10, 3) := by decide +kernel
theorem dX4_group_31 : decode cX4_group 31 = .ok (.getfield 58, 3) := by decide +kernel
theorem dX4_group_34 : decode cX4_group 34 = .ok (.iload_n 3, 1) := by decide +kernel
theorem dX4_group_35 : decode cX4_group 35 = .ok (.invokevirtual 136, 3) := by decide +kernel
theorem dX4_group_38 : decode cX4_group 38 = .ok (.ifCond .ne 6, 3) := by decide +kernel
theorem dX4_group_41 : decode cX4_group 41 = .ok (.bipush (-9), 2) := by decide +kernel
theorem dX4_group_43 : decode cX4_group 43 = .ok (.ireturn, 1) := by decide +kernel
theorem dX4_group_44 : decode cX4_group 44 = .ok (.iload_n 2, 1) := by decide +kernel
theorem dX4_group_45 : decode cX4_group 45 = .ok (.tableswitch 65 0 2 #[27, 40, 53], 27) := by decide +kernel
theorem dX4_group_72 : decode cX4_group 72 = .ok (.aload_n 0, 1) := by decide +kernel
theorem dX4_group_73 : decode cX4_group 73 = .ok (.getfield 10, 3) := by decide +kernel
theorem dX4_group_76 : decode cX4_group 76 = .ok (.getfield 58, 3) := by decide +kernel
theorem dX4_group_79 : decode cX4_group 79 = .ok (.getfield 137, 3) := by decide +kernel
theorem dX4_group_82 : decode cX4_group 82 = .ok (.iload_n 3, 1) := by decide +kernel
theorem dX4_group_83 : decode cX4_group 83 = .ok (.iaload, 1) := by decide +kernel
theorem dX4_group_84 : decode cX4_group 84 = .ok (.ireturn, 1) := by decide +kernel
theorem dX4_group_85 : decode cX4_group 85 = .ok (.aload_n 0, 1) := by decide +kernel
theorem dX4_group_86 : decode cX4_group 86 = .ok (.getfield 10, 3) := by decide +kernel
theorem dX4_group_89 : decode cX4_group 89 = .ok (.getfield 58, 3) := by decide +kernel
theorem dX4_group_92 : decode cX4_group 92 = .ok (.getfield 138, 3) := by decide +kernel
theorem dX4_group_95 : decode cX4_group 95 = .ok (.iload_n 3, 1) := by decide +kernel
theorem dX4_group_96 : decode cX4_group 96 = .ok (.iaload, 1) := by decide +kernel
theorem dX4_group_97 : decode cX4_group 97 = .ok (.ireturn, 1) := by decide +kernel
theorem dX4_group_98 : decode cX4_group 98 = .ok (.aload_n 0, 1) := by decide +kernel
theorem dX4_group_99 : decode cX4_group 99 = .ok (.getfield 10, 3) := by decide +kernel
theorem dX4_group_102 : decode cX4_group 102 = .ok (.getfield 58, 3) := by decide +kernel
theorem dX4_group_105 : decode cX4_group 105 = .ok (.iload_n 3, 1) := by decide +kernel
theorem dX4_group_106 : decode cX4_group 106 = .ok (.invokevirtual 162, 3) := by decide +kernel
theorem dX4_group_109 : decode cX4_group 109 = .ok (.ireturn, 1) := by decide +kernel
theorem dX4_group_110 : decode cX4_group 110 = .ok (.iload_n 3, 1) := by decide +kernel
theorem dX4_group_111 : decode cX4_group 111 = .ok (.ireturn, 1) := by decide +kernel
set_option maxRecDepth 20000 in
theorem ggX4_cost_X1_has : GoodIn wsX4_cost wsX1_has := goodIn_r _ [7, 8, 93, 94, 95, 96, 97, 98, 99, 100] (by decide +kernel) (by decide +kernel)
set_option maxRecDepth 20000 in
theorem gX4_cost_X1_has : GoodIn wsX4_cost (wsV RX4 52 RX1 yX1_has wsX1_has) := goodIn_app (goodIn_of _ (by decide +kernel)) ggX4_cost_X1_has
set_option maxRecDepth 20000 in
theorem ggX4_cost_X4_isWay : GoodIn wsX4_cost wsX4_isWay := goodIn_r _ [12, 13, 14, 11, 15] (by decide +kernel) (by decide +kernel)
set_option maxRecDepth 20000 in
theorem gX4_cost_X4_isWay : GoodIn wsX4_cost (va_wsS RX4 78 yX4_isWay wsX4_isWay) := goodIn_app (goodIn_of _ (by decide +kernel)) ggX4_cost_X4_isWay
set_option maxRecDepth 20000 in
theorem ggX4_cost_X3_canBeGiven : GoodIn wsX4_cost wsX3_canBeGiven := goodIn_r _ [20, 21, 22, 23, 24, 25, 19, 26, 27, 28, 29, 30, 31, 32, 33, 34, 35, 36, 37, 38, 39, 6, 40, 41, 42, 89, 90, 91, 92, 93, 94, 95, 96, 97, 98, 99, 100] (by decide +kernel) (by decide +kernel)
set_option maxRecDepth 20000 in
theorem gX4_cost_X3_canBeGiven : GoodIn wsX4_cost (wsV RX4 165 RX3 yX3_canBeGiven wsX3_canBeGiven) := goodIn_app (goodIn_of _ (by decide +kernel)) ggX4_cost_X3_canBeGiven
set_option maxRecDepth 20000 in
theorem ggX4_cost_X3_costOf : GoodIn wsX4_cost wsX3_costOf := goodIn_r _ [46, 21, 47, 48, 49, 50, 51, 52, 53, 54, 55, 56, 57, 58, 59, 60, 61, 62, 63, 64, 65, 66, 67, 68, 69, 70, 71, 72, 73, 74, 75, 76, 77, 78, 79, 80, 81, 82, 83, 84, 85, 89, 90, 91, 92, 93, 94, 95, 96, 97, 98, 99, 100, 101, 102, 103, 104, 105, 106, 107, 108, 109] (by decide +kernel) (by decide +kernel)
set_option maxRecDepth 20000 in
theorem gX4_cost_X3_costOf : GoodIn wsX4_cost (wsV RX4 169 RX3 yX3_costOf wsX3_costOf) := goodIn_app (goodIn_of _ (by decide +kernel)) ggX4_cost_X3_costOf
theorem dX4_cost_0 : decode cX4_cost 0 = .ok (.aload_n 0, 1) := by decide +kernel
theorem dX4_cost_1 : decode cX4_cost 1 = .ok (.getfield 10, 3) := by decide +kernel
theorem dX4_cost_4 : decode cX4_cost 4 = .ok (.getfield 30, 3) := by decide +kernel
theorem dX4_cost_7 : decode cX4_cost 7 = .ok (.iload_n 1, 1) := by decide +kernel
theorem dX4_cost_8 : decode cX4_cost 8 = .ok (.invokevirtual 52, 3) := by decide +kernel
theorem dX4_cost_11 : decode cX4_cost 11 = .ok (.ifCond .eq 11, 3) := by decide +kernel
theorem dX4_cost_14 : decode cX4_cost 14 = .ok (.iload_n 2, 1) := by decide +kernel
theorem dX4_cost_15 : decode cX4_cost 15 = .ok (.iload_n 3, 1) := by decide +kernel
theorem dX4_cost_16 : decode cX4_cost 16 = .ok (.invokestatic 78, 3) := by decide +kernel
theorem dX4_cost_19 : decode cX4_cost 19 = .ok (.ifCond .ne 5, 3) := by decide +kernel
theorem dX4_cost_22 : decode cX4_cost 22 = .ok (.iconst (-1), 1) := by decide +kernel
theorem dX4_cost_23 : decode cX4_cost 23 = .ok (.ireturn, 1) := by decide +kernel
theorem dX4_cost_24 : decode cX4_cost 24 = .ok (.aload_n 0, 1) := by decide +kernel
theorem dX4_cost_25 : decode cX4_cost 25 = .ok (.getfield 10, 3) := by decide +kernel
theorem dX4_cost_28 : decode cX4_cost 28 = .ok (.iload_n 1, 1) := by decide +kernel
theorem dX4_cost_29 : decode cX4_cost 29 = .ok (.iload_n 2, 1) := by decide +kernel
theorem dX4_cost_30 : decode cX4_cost 30 = .ok (.iload_n 3, 1) := by decide +kernel
theorem dX4_cost_31 : decode cX4_cost 31 = .ok (.invokevirtual 165, 3) := by decide +kernel
theorem dX4_cost_34 : decode cX4_cost 34 = .ok (.ifCond .eq 16, 3) := by decide +kernel
theorem dX4_cost_37 : decode cX4_cost 37 = .ok (.aload_n 0, 1) := by decide +kernel
theorem dX4_cost_38 : decode cX4_cost 38 = .ok (.getfield 10, 3) := by decide +kernel
theorem dX4_cost_41 : decode cX4_cost 41 = .ok (.iload_n 1, 1) := by decide +kernel
theorem dX4_cost_42 : decode cX4_cost 42 = .ok (.iload_n 2, 1) := by decide +kernel
theorem dX4_cost_43 : decode cX4_cost 43 = .ok (.iload_n 3, 1) := by decide +kernel
theorem dX4_cost_44 : decode cX4_cost 44 = .ok (.invokevirtual 169, 3) := by decide +kernel
theorem dX4_cost_47 : decode cX4_cost 47 = .ok (.goto 5, 3) := by decide +kernel
theorem dX4_cost_50 : decode cX4_cost 50 = .ok (.bipush (-9), 2) := by decide +kernel
theorem dX4_cost_52 : decode cX4_cost 52 = .ok (.ireturn, 1) := by decide +kernel
set_option maxRecDepth 20000 in
theorem ggX4_would_X4_isWay : GoodIn wsX4_would wsX4_isWay := goodIn_r _ [5, 6, 7, 4, 8] (by decide +kernel) (by decide +kernel)
set_option maxRecDepth 20000 in
theorem gX4_would_X4_isWay : GoodIn wsX4_would (va_wsS RX4 78 yX4_isWay wsX4_isWay) := goodIn_app (goodIn_of _ (by decide +kernel)) ggX4_would_X4_isWay
set_option maxRecDepth 20000 in
theorem ggX4_would_X3_bestCar : GoodIn wsX4_would wsX3_bestCar := goodIn_r _ [13, 14, 15, 16, 17, 18, 12, 19, 20, 21, 22, 23, 24, 25, 26, 27, 28, 29, 30, 31, 32, 33, 34, 35, 36, 37, 38, 39, 40, 41, 42, 43, 44, 45, 46, 47, 48, 49, 50, 51, 52, 53, 54, 55, 56, 57, 58, 59, 60, 61, 62, 63, 64, 65, 66, 67, 68, 69, 70, 71, 72, 73, 74, 75, 76, 77, 78, 79, 80, 81, 82, 83, 84, 88, 89, 90, 91, 92, 93, 94, 95, 96, 97, 98, 99, 100, 101, 102, 103, 104, 105, 106, 107, 108] (by decide +kernel) (by decide +kernel)
set_option maxRecDepth 20000 in
theorem gX4_would_X3_bestCar : GoodIn wsX4_would (wsV RX4 83 RX3 yX3_bestCar wsX3_bestCar) := goodIn_app (goodIn_of _ (by decide +kernel)) ggX4_would_X3_bestCar
theorem dX4_would_0 : decode cX4_would 0 = .ok (.iload_n 1, 1) := by decide +kernel
theorem dX4_would_1 : decode cX4_would 1 = .ok (.iload_n 2, 1) := by decide +kernel
theorem dX4_would_2 : decode cX4_would 2 = .ok (.invokestatic 78, 3) := by decide +kernel
theorem dX4_would_5 : decode cX4_would 5 = .ok (.ifCond .eq 15, 3) := by decide +kernel
theorem dX4_would_8 : decode cX4_would 8 = .ok (.aload_n 0, 1) := by decide +kernel
theorem dX4_would_9 : decode cX4_would 9 = .ok (.getfield 10, 3) := by decide +kernel
theorem dX4_would_12 : decode cX4_would 12 = .ok (.iload_n 1, 1) := by decide +kernel
theorem dX4_would_13 : decode cX4_would 13 = .ok (.iload_n 2, 1) := by decide +kernel
theorem dX4_would_14 : decode cX4_would 14 = .ok (.invokevirtual 83, 3) := by decide +kernel
theorem dX4_would_17 : decode cX4_would 17 = .ok (.goto 4, 3) := by decide +kernel
theorem dX4_would_20 : decode cX4_would 20 = .ok (.iconst (-1), 1) := by decide +kernel
theorem dX4_would_21 : decode cX4_would 21 = .ok (.ireturn, 1) := by decide +kernel
set_option maxRecDepth 20000 in
theorem ggX4_thereIn_X0_has : GoodIn wsX4_thereIn wsX0_has := goodIn_r _ [9, 10, 159, 160, 161, 162, 163, 164, 165, 166, 167] (by decide +kernel) (by decide +kernel)
set_option maxRecDepth 20000 in
theorem gX4_thereIn_X0_has : GoodIn wsX4_thereIn (wsV RX4 136 RX0 yX0_has wsX0_has) := goodIn_app (goodIn_of _ (by decide +kernel)) ggX4_thereIn_X0_has
set_option maxRecDepth 20000 in
theorem ggX4_thereIn_X3_copyFrom : GoodIn wsX4_thereIn wsX3_copyFrom := goodIn_r _ [15, 16, 17, 18, 19, 20, 21, 22, 23, 24, 25, 26, 27, 28, 29, 30, 31, 32, 33, 34, 35, 36, 37, 38, 39, 40, 8, 41, 10, 42, 43, 44, 45, 46, 47, 48, 49, 50, 155, 156, 157, 158, 168, 169, 170, 171, 172, 173, 174, 175, 159, 160, 161, 162, 163, 164, 165, 166, 167] (by decide +kernel) (by decide +kernel)
set_option maxRecDepth 20000 in
theorem gX4_thereIn_X3_copyFrom : GoodIn wsX4_thereIn (wsV RX4 172 RX3 yX3_copyFrom wsX3_copyFrom) := goodIn_app (goodIn_of _ (by decide +kernel)) ggX4_thereIn_X3_copyFrom
set_option maxRecDepth 20000 in
theorem ggX4_thereIn_X3_oneTick : GoodIn wsX4_thereIn wsX3_oneTick := goodIn_r _ [54, 23, 55, 56, 57, 58, 22, 59, 60, 16, 61, 62, 63, 14, 64, 65, 66, 67, 68, 69, 70, 71, 72, 17, 73, 74, 75, 76, 77, 78, 79, 80, 81, 82, 83, 27, 84, 31, 33, 85, 86, 87, 88, 89, 90, 91, 92, 93, 94, 95, 96, 8, 97, 10, 42, 44, 98, 99, 100, 101, 45, 46, 102, 103, 104, 105, 106, 107, 108, 109, 110, 111, 112, 113, 114, 115, 116, 117, 118, 119, 120, 121, 122, 123, 124, 50, 125, 6, 7, 9, 126, 127, 128, 129, 130, 131, 132, 133, 134, 135, 49, 136, 137, 138, 139, 48, 140, 141, 142, 143, 144, 145, 146, 147, 148, 149, 150, 151, 35, 37, 155, 156, 157, 158, 159, 160, 161, 162, 163, 164, 165, 166, 167, 168, 169, 170, 171, 172, 173, 174, 175] (by decide +kernel) (by decide +kernel)
set_option maxRecDepth 20000 in
theorem gX4_thereIn_X3_oneTick : GoodIn wsX4_thereIn (wsV RX4 95 RX3 yX3_oneTick wsX3_oneTick) := goodIn_app (goodIn_of _ (by decide +kernel)) ggX4_thereIn_X3_oneTick
theorem dX4_thereIn_0 : decode cX4_thereIn 0 = .ok (.aload_n 0, 1) := by decide +kernel
theorem dX4_thereIn_1 : decode cX4_thereIn 1 = .ok (.getfield 10, 3) := by decide +kernel
theorem dX4_thereIn_4 : decode cX4_thereIn 4 = .ok (.getfield 58, 3) := by decide +kernel
theorem dX4_thereIn_7 : decode cX4_thereIn 7 = .ok (.iload_n 1, 1) := by decide +kernel
theorem dX4_thereIn_8 : decode cX4_thereIn 8 = .ok (.invokevirtual 136, 3) := by decide +kernel
theorem dX4_thereIn_11 : decode cX4_thereIn 11 = .ok (.ifCond .ne 5, 3) := by decide +kernel
theorem dX4_thereIn_14 : decode cX4_thereIn 14 = .ok (.iconst (-1), 1) := by decide +kernel
theorem dX4_thereIn_15 : decode cX4_thereIn 15 = .ok (.ireturn, 1) := by decide +kernel
theorem dX4_thereIn_16 : decode cX4_thereIn 16 = .ok (.aload_n 0, 1) := by decide +kernel
theorem dX4_thereIn_17 : decode cX4_thereIn 17 = .ok (.getfield 16, 3) := by decide +kernel
theorem dX4_thereIn_20 : decode cX4_thereIn 20 = .ok (.aload_n 0, 1) := by decide +kernel
theorem dX4_thereIn_21 : decode cX4_thereIn 21 = .ok (.getfield 10, 3) := by decide +kernel
theorem dX4_thereIn_24 : decode cX4_thereIn 24 = .ok (.invokevirtual 172, 3) := by decide +kernel
theorem dX4_thereIn_27 : decode cX4_thereIn 27 = .ok (.iconst 0, 1) := by decide +kernel
theorem dX4_thereIn_28 : decode cX4_thereIn 28 = .ok (.istore_n 2, 1) := by decide +kernel
theorem dX4_thereIn_29 : decode cX4_thereIn 29 = .ok (.iload_n 2, 1) := by decide +kernel
theorem dX4_thereIn_30 : decode cX4_thereIn 30 = .ok (.sipush 400, 3) := by decide +kernel
theorem dX4_thereIn_33 : decode cX4_thereIn 33 = .ok (.if_icmp .gt 34, 3) := by decide +kernel
theorem dX4_thereIn_36 : decode cX4_thereIn 36 = .ok (.aload_n 0, 1) := by decide +kernel
theorem dX4_thereIn_37 : decode cX4_thereIn 37 = .ok (.getfield 16, 3) := by decide +kernel
theorem dX4_thereIn_40 : decode cX4_thereIn 40 = .ok (.getfield 58, 3) := by decide +kernel
theorem dX4_thereIn_43 : decode cX4_thereIn 43 = .ok (.getfield 141, 3) := by decide +kernel
theorem dX4_thereIn_46 : decode cX4_thereIn 46 = .ok (.iload_n 1, 1) := by decide +kernel
theorem dX4_thereIn_47 : decode cX4_thereIn 47 = .ok (.iaload, 1) := by decide +kernel
theorem dX4_thereIn_48 : decode cX4_thereIn 48 = .ok (.iconst 3, 1) := by decide +kernel
theorem dX4_thereIn_49 : decode cX4_thereIn 49 = .ok (.if_icmp .ne 5, 3) := by decide +kernel
theorem dX4_thereIn_52 : decode cX4_thereIn 52 = .ok (.iload_n 2, 1) := by decide +kernel
theorem dX4_thereIn_53 : decode cX4_thereIn 53 = .ok (.ireturn, 1) := by decide +kernel
theorem dX4_thereIn_54 : decode cX4_thereIn 54 = .ok (.aload_n 0, 1) := by decide +kernel
theorem dX4_thereIn_55 : decode cX4_thereIn 55 = .ok (.getfield 16, 3) := by decide +kernel
theorem dX4_thereIn_58 : decode cX4_thereIn 58 = .ok (.invokevirtual 95, 3) := by decide +kernel
theorem dX4_thereIn_61 : decode cX4_thereIn 61 = .ok (.iinc 2 1, 3) := by decide +kernel
theorem dX4_thereIn_64 : decode cX4_thereIn 64 = .ok (.goto (-35), 3) := by decide +kernel
theorem dX4_thereIn_67 : decode cX4_thereIn 67 = .ok (.bipush (-9), 2) := by decide +kernel
theorem dX4_thereIn_69 : decode cX4_thereIn 69 = .ok (.ireturn, 1) := by decide +kernel
set_option maxRecDepth 20000 in
theorem ggX4_waits_X0_waitOf : GoodIn wsX4_waits wsX0_waitOf := goodIn_r _ [9, 10, 11, 12, 20, 21, 22, 23, 24, 25, 26, 27, 28] (by decide +kernel) (by decide +kernel)
set_option maxRecDepth 20000 in
theorem gX4_waits_X0_waitOf : GoodIn wsX4_waits (wsV RX4 175 RX0 yX0_waitOf wsX0_waitOf) := goodIn_app (goodIn_of _ (by decide +kernel)) ggX4_waits_X0_waitOf
theorem dX4_waits_0 : decode cX4_waits 0 = .ok (.iload_n 1, 1) := by decide +kernel
theorem dX4_waits_1 : decode cX4_waits 1 = .ok (.ifCond .lt 8, 3) := by decide +kernel
theorem dX4_waits_4 : decode cX4_waits 4 = .ok (.iload_n 1, 1) := by decide +kernel
theorem dX4_waits_5 : decode cX4_waits 5 = .ok (.iconst 2, 1) := by decide +kernel
theorem dX4_waits_6 : decode cX4_waits 6 = .ok (.if_icmp .le 5, 3) := by decide +kernel
theorem dX4_waits_9 : decode cX4_waits 9 = .ok (.iconst (-1), 1) := by decide +kernel
theorem dX4_waits_10 : decode cX4_waits 10 = .ok (.ireturn, 1) := by decide +kernel
theorem dX4_waits_11 : decode cX4_waits 11 = .ok (.bipush (-9), 2) := by decide +kernel
theorem dX4_waits_13 : decode cX4_waits 13 = .ok (.istore_n 2, 1) := by decide +kernel
theorem dX4_waits_14 : decode cX4_waits 14 = .ok (.bipush (-9), 2) := by decide +kernel
theorem dX4_waits_16 : decode cX4_waits 16 = .ok (.istore_n 3, 1) := by decide +kernel
theorem dX4_waits_17 : decode cX4_waits 17 = .ok (.iconst 0, 1) := by decide +kernel
theorem dX4_waits_18 : decode cX4_waits 18 = .ok (.istore 4, 2) := by decide +kernel
theorem dX4_waits_20 : decode cX4_waits 20 = .ok (.iconst 0, 1) := by decide +kernel
theorem dX4_waits_21 : decode cX4_waits 21 = .ok (.istore 5, 2) := by decide +kernel
theorem dX4_waits_23 : decode cX4_waits 23 = .ok (.iload 5, 2) := by decide +kernel
theorem dX4_waits_25 : decode cX4_waits 25 = .ok (.aload_n 0, 1) := by decide +kernel
theorem dX4_waits_26 : decode cX4_waits 26 = .ok (.getfield 10, 3) := by decide +kernel
theorem dX4_waits_29 : decode cX4_waits 29 = .ok (.getfield 58, 3) := by decide +kernel
theorem dX4_waits_32 : decode cX4_waits 32 = .ok (.getfield 82, 3) := by decide +kernel
theorem dX4_waits_35 : decode cX4_waits 35 = .ok (.if_icmp .ge 49, 3) := by decide +kernel
theorem dX4_waits_38 : decode cX4_waits 38 = .ok (.aload_n 0, 1) := by decide +kernel
theorem dX4_waits_39 : decode cX4_waits 39 = .ok (.getfield 10, 3) := by decide +kernel
theorem dX4_waits_42 : decode cX4_waits 42 = .ok (.getfield 58, 3) := by decide +kernel
theorem dX4_waits_45 : decode cX4_waits 45 = .ok (.iload 5, 2) := by decide +kernel
theorem dX4_waits_47 : decode cX4_waits 47 = .ok (.aload_n 0, 1) := by decide +kernel
theorem dX4_waits_48 : decode cX4_waits 48 = .ok (.getfield 10, 3) := by decide +kernel
theorem dX4_waits_51 : decode cX4_waits 51 = .ok (.getfield 87, 3) := by decide +kernel
theorem dX4_waits_54 : decode cX4_waits 54 = .ok (.invokevirtual 175, 3) := by decide +kernel
theorem dX4_waits_57 : decode cX4_waits 57 = .ok (.istore 6, 2) := by decide +kernel
theorem dX4_waits_59 : decode cX4_waits 59 = .ok (.iload 4, 2) := by decide +kernel
theorem dX4_waits_61 : decode cX4_waits 61 = .ok (.iload 6, 2) := by decide +kernel
theorem dX4_waits_63 : decode cX4_waits 63 = .ok (.iadd, 1) := by decide +kernel
theorem dX4_waits_64 : decode cX4_waits 64 = .ok (.istore 4, 2) := by decide +kernel
theorem dX4_waits_66 : decode cX4_waits 66 = .ok (.iload 6, 2) := by decide +kernel
theorem dX4_waits_68 : decode cX4_waits 68 = .ok (.iload_n 2, 1) := by decide +kernel
theorem dX4_waits_69 : decode cX4_waits 69 = .ok (.if_icmp .le 9, 3) := by decide +kernel
theorem dX4_waits_72 : decode cX4_waits 72 = .ok (.iload 6, 2) := by decide +kernel
theorem dX4_waits_74 : decode cX4_waits 74 = .ok (.istore_n 2, 1) := by decide +kernel
theorem dX4_waits_75 : decode cX4_waits 75 = .ok (.iload 5, 2) := by decide +kernel
theorem dX4_waits_77 : decode cX4_waits 77 = .ok (.istore_n 3, 1) := by decide +kernel
theorem dX4_waits_78 : decode cX4_waits 78 = .ok (.iinc 5 1, 3) := by decide +kernel
theorem dX4_waits_81 : decode cX4_waits 81 = .ok (.goto (-58), 3) := by decide +kernel
theorem dX4_waits_84 : decode cX4_waits 84 = .ok (.iload_n 1, 1) := by decide +kernel
theorem dX4_waits_85 : decode cX4_waits 85 = .ok (.lookupswitch 31 #[(0, 27), (1, 29)], 27) := by decide +kernel
theorem dX4_waits_112 : decode cX4_waits 112 = .ok (.iload_n 2, 1) := by decide +kernel
theorem dX4_waits_113 : decode cX4_waits 113 = .ok (.ireturn, 1) := by decide +kernel
theorem dX4_waits_114 : decode cX4_waits 114 = .ok (.iload_n 3, 1) := by decide +kernel
theorem dX4_waits_115 : decode cX4_waits 115 = .ok (.ireturn, 1) := by decide +kernel
theorem dX4_waits_116 : decode cX4_waits 116 = .ok (.iload 4, 2) := by decide +kernel
theorem dX4_waits_118 : decode cX4_waits 118 = .ok (.ireturn, 1) := by decide +kernel
set_option maxRecDepth 20000 in
theorem ggX4_worstCar_X4_allThereInWithout : GoodIn wsX4_worstCar wsX4_allThereInWithout := goodIn_r _ [9, 10, 1, 11, 12, 13, 14, 15, 16, 17, 18, 19, 20, 21, 22, 23, 24, 25, 26, 27, 28, 29, 30, 31, 32, 33, 34, 35, 36, 37, 38, 39, 40, 41, 42, 43, 44, 45, 46, 47, 48, 49, 50, 51, 52, 53, 54, 55, 56, 57, 58, 59, 60, 61, 62, 63, 64, 65, 66, 67, 68, 69, 70, 71, 72, 73, 74, 75, 76, 77, 78, 79, 80, 81, 82, 83, 84, 85, 86, 87, 88, 89, 90, 91, 92, 93, 94, 95, 96, 97, 98, 99, 100, 101, 102, 103, 104, 105, 106, 107, 108, 109, 110, 111, 112, 113, 114, 115, 116, 117, 118, 119, 120, 121, 122, 123, 124, 125, 126, 127, 128, 129, 130, 131, 132, 133, 134, 135, 136, 137, 138, 139, 140, 141, 142, 143, 144, 145, 146, 147, 148, 149, 150, 151, 152, 153, 154, 155, 156, 157, 158, 159, 160, 161, 162, 163, 164, 165, 166, 167, 168, 169, 170, 171, 172, 173, 174, 175, 176, 177, 186, 187, 188, 189, 190, 191, 192, 193, 194, 178, 179, 180, 181, 182, 183, 184, 185] (by decide +kernel) (by decide +kernel)
set_option maxRecDepth 20000 in
theorem gX4_worstCar_X4_allThereInWithout : GoodIn wsX4_worstCar (wsV RX4 178 RX4 yX4_allThereInWithout wsX4_allThereInWithout) := goodIn_app (goodIn_of _ (by decide +kernel)) ggX4_worstCar_X4_allThereInWithout
theorem dX4_worstCar_0 : decode cX4_worstCar 0 = .ok (.iload_n 1, 1) := by decide +kernel
theorem dX4_worstCar_1 : decode cX4_worstCar 1 = .ok (.ifCond .lt 8, 3) := by decide +kernel
theorem dX4_worstCar_4 : decode cX4_worstCar 4 = .ok (.iload_n 1, 1) := by decide +kernel
theorem dX4_worstCar_5 : decode cX4_worstCar 5 = .ok (.iconst 1, 1) := by decide +kernel
theorem dX4_worstCar_6 : decode cX4_worstCar 6 = .ok (.if_icmp .le 5, 3) := by decide +kernel
theorem dX4_worstCar_9 : decode cX4_worstCar 9 = .ok (.iconst (-1), 1) := by decide +kernel
theorem dX4_worstCar_10 : decode cX4_worstCar 10 = .ok (.ireturn, 1) := by decide +kernel
theorem dX4_worstCar_11 : decode cX4_worstCar 11 = .ok (.bipush (-9), 2) := by decide +kernel
theorem dX4_worstCar_13 : decode cX4_worstCar 13 = .ok (.istore_n 2, 1) := by decide +kernel
theorem dX4_worstCar_14 : decode cX4_worstCar 14 = .ok (.bipush (-9), 2) := by decide +kernel
theorem dX4_worstCar_16 : decode cX4_worstCar 16 = .ok (.istore_n 3, 1) := by decide +kernel
theorem dX4_worstCar_17 : decode cX4_worstCar 17 = .ok (.iconst 0, 1) := by decide +kernel
theorem dX4_worstCar_18 : decode cX4_worstCar 18 = .ok (.istore 4, 2) := by decide +kernel
theorem dX4_worstCar_20 : decode cX4_worstCar 20 = .ok (.iload 4, 2) := by decide +kernel
theorem dX4_worstCar_22 : decode cX4_worstCar 22 = .ok (.aload_n 0, 1) := by decide +kernel
theorem dX4_worstCar_23 : decode cX4_worstCar 23 = .ok (.getfield 10, 3) := by decide +kernel
theorem dX4_worstCar_26 : decode cX4_worstCar 26 = .ok (.getfield 30, 3) := by decide +kernel
theorem dX4_worstCar_29 : decode cX4_worstCar 29 = .ok (.getfield 34, 3) := by decide +kernel
theorem dX4_worstCar_32 : decode cX4_worstCar 32 = .ok (.if_icmp .ge 49, 3) := by decide +kernel
theorem dX4_worstCar_35 : decode cX4_worstCar 35 = .ok (.aload_n 0, 1) := by decide +kernel
theorem dX4_worstCar_36 : decode cX4_worstCar 36 = .ok (.getfield 10, 3) := by decide +kernel
theorem dX4_worstCar_39 : decode cX4_worstCar 39 = .ok (.getfield 30, 3) := by decide +kernel
theorem dX4_worstCar_42 : decode cX4_worstCar 42 = .ok (.getfield 55, 3) := by decide +kernel
theorem dX4_worstCar_45 : decode cX4_worstCar 45 = .ok (.iload 4, 2) := by decide +kernel
theorem dX4_worstCar_47 : decode cX4_worstCar 47 = .ok (.iaload, 1) := by decide +kernel
theorem dX4_worstCar_48 : decode cX4_worstCar 48 = .ok (.iconst 2, 1) := by decide +kernel
theorem dX4_worstCar_49 : decode cX4_worstCar 49 = .ok (.if_icmp .ne 6, 3) := by decide +kernel
theorem dX4_worstCar_52 : decode cX4_worstCar 52 = .ok (.goto 23, 3) := by decide +kernel
theorem dX4_worstCar_55 : decode cX4_worstCar 55 = .ok (.aload_n 0, 1) := by decide +kernel
theorem dX4_worstCar_56 : decode cX4_worstCar 56 = .ok (.iload 4, 2) := by decide +kernel
theorem dX4_worstCar_58 : decode cX4_worstCar 58 = .ok (.invokevirtual 178, 3) := by decide +kernel
theorem dX4_worstCar_61 : decode cX4_worstCar 61 = .ok (.istore 5, 2) := by decide +kernel
theorem dX4_worstCar_63 : decode cX4_worstCar 63 = .ok (.iload 5, 2) := by decide +kernel
theorem dX4_worstCar_65 : decode cX4_worstCar 65 = .ok (.iload_n 3, 1) := by decide +kernel
theorem dX4_worstCar_66 : decode cX4_worstCar 66 = .ok (.if_icmp .le 9, 3) := by decide +kernel
theorem dX4_worstCar_69 : decode cX4_worstCar 69 = .ok (.iload 5, 2) := by decide +kernel
theorem dX4_worstCar_71 : decode cX4_worstCar 71 = .ok (.istore_n 3, 1) := by decide +kernel
theorem dX4_worstCar_72 : decode cX4_worstCar 72 = .ok (.iload 4, 2) := by decide +kernel
theorem dX4_worstCar_74 : decode cX4_worstCar 74 = .ok (.istore_n 2, 1) := by decide +kernel
theorem dX4_worstCar_75 : decode cX4_worstCar 75 = .ok (.iinc 4 1, 3) := by decide +kernel
theorem dX4_worstCar_78 : decode cX4_worstCar 78 = .ok (.goto (-58), 3) := by decide +kernel
theorem dX4_worstCar_81 : decode cX4_worstCar 81 = .ok (.iload_n 1, 1) := by decide +kernel
theorem dX4_worstCar_82 : decode cX4_worstCar 82 = .ok (.ifCond .ne 7, 3) := by decide +kernel
theorem dX4_worstCar_85 : decode cX4_worstCar 85 = .ok (.iload_n 2, 1) := by decide +kernel
theorem dX4_worstCar_86 : decode cX4_worstCar 86 = .ok (.goto 4, 3) := by decide +kernel
theorem dX4_worstCar_89 : decode cX4_worstCar 89 = .ok (.iload_n 3, 1) := by decide +kernel
theorem dX4_worstCar_90 : decode cX4_worstCar 90 = .ok (.ireturn, 1) := by decide +kernel
theorem dX4_isFloor_0 : decode cX4_isFloor 0 = .ok (.iload_n 0, 1) := by decide +kernel
theorem dX4_isFloor_1 : decode cX4_isFloor 1 = .ok (.ifCond .lt 13, 3) := by decide +kernel
theorem dX4_isFloor_4 : decode cX4_isFloor 4 = .ok (.iload_n 0, 1) := by decide +kernel
theorem dX4_isFloor_5 : decode cX4_isFloor 5 = .ok (.bipush 16, 2) := by decide +kernel
theorem dX4_isFloor_7 : decode cX4_isFloor 7 = .ok (.if_icmp .ge 7, 3) := by decide +kernel
theorem dX4_isFloor_10 : decode cX4_isFloor 10 = .ok (.iconst 1, 1) := by decide +kernel
theorem dX4_isFloor_11 : decode cX4_isFloor 11 = .ok (.goto 4, 3) := by decide +kernel
theorem dX4_isFloor_14 : decode cX4_isFloor 14 = .ok (.iconst 0, 1) := by decide +kernel
theorem dX4_isFloor_15 : decode cX4_isFloor 15 = .ok (.ireturn, 1) := by decide +kernel
set_option maxRecDepth 20000 in
theorem ggX4_isWay_X4_isFloor : GoodIn wsX4_isWay wsX4_isFloor := goodIn_r _ [4] (by decide +kernel) (by decide +kernel)
set_option maxRecDepth 20000 in
theorem gX4_isWay_X4_isFloor : GoodIn wsX4_isWay (va_wsS RX4 26 yX4_isFloor wsX4_isFloor) := goodIn_app (goodIn_of _ (by decide +kernel)) ggX4_isWay_X4_isFloor
theorem dX4_isWay_0 : decode cX4_isWay 0 = .ok (.iload_n 0, 1) := by decide +kernel
theorem dX4_isWay_1 : decode cX4_isWay 1 = .ok (.invokestatic 26, 3) := by decide +kernel
theorem dX4_isWay_4 : decode cX4_isWay 4 = .ok (.ifCond .eq 19, 3) := by decide +kernel
theorem dX4_isWay_7 : decode cX4_isWay 7 = .ok (.iload_n 1, 1) := by decide +kernel
theorem dX4_isWay_8 : decode cX4_isWay 8 = .ok (.invokestatic 26, 3) := by decide +kernel
theorem dX4_isWay_11 : decode cX4_isWay 11 = .ok (.ifCond .eq 12, 3) := by decide +kernel
theorem dX4_isWay_14 : decode cX4_isWay 14 = .ok (.iload_n 0, 1) := by decide +kernel
theorem dX4_isWay_15 : decode cX4_isWay 15 = .ok (.iload_n 1, 1) := by decide +kernel
theorem dX4_isWay_16 : decode cX4_isWay 16 = .ok (.if_icmp .eq 7, 3) := by decide +kernel
theorem dX4_isWay_19 : decode cX4_isWay 19 = .ok (.iconst 1, 1) := by decide +kernel
theorem dX4_isWay_20 : decode cX4_isWay 20 = .ok (.goto 4, 3) := by decide +kernel
theorem dX4_isWay_23 : decode cX4_isWay 23 = .ok (.iconst 0, 1) := by decide +kernel
theorem dX4_isWay_24 : decode cX4_isWay 24 = .ok (.ireturn, 1) := by decide +kernel
set_option maxRecDepth 20000 in
theorem ggX4_allThereInWithout_X3_copyFrom : GoodIn wsX4_allThereInWithout wsX3_copyFrom := goodIn_r _ [9, 10, 11, 12, 13, 14, 15, 16, 17, 18, 19, 20, 21, 22, 23, 24, 25, 26, 27, 28, 29, 30, 31, 32, 33, 34, 35, 36, 37, 38, 39, 40, 41, 42, 43, 44, 45, 46, 166, 167, 168, 169, 179, 180, 181, 182, 183, 184, 185, 186, 170, 171, 172, 173, 174, 175, 176, 177, 178] (by decide +kernel) (by decide +kernel)
set_option maxRecDepth 20000 in
theorem gX4_allThereInWithout_X3_copyFrom : GoodIn wsX4_allThereInWithout (wsV RX4 172 RX3 yX3_copyFrom wsX3_copyFrom) := goodIn_app (goodIn_of _ (by decide +kernel)) ggX4_allThereInWithout_X3_copyFrom
set_option maxRecDepth 20000 in
theorem ggX4_allThereInWithout_X3_breakCar : GoodIn wsX4_allThereInWithout wsX3_breakCar := goodIn_r _ [50, 16, 51, 17, 52, 10, 53, 54, 55, 35, 56, 37, 38, 40, 41, 45, 42, 57, 58, 59, 60, 61, 62, 63, 64, 166, 167, 168, 169, 179, 180, 181, 182, 183, 184, 185, 186, 170, 171, 172, 173, 174, 175, 176, 177, 178] (by decide +kernel) (by decide +kernel)
set_option maxRecDepth 20000 in
theorem gX4_allThereInWithout_X3_breakCar : GoodIn wsX4_allThereInWithout (wsV RX4 68 RX3 yX3_breakCar wsX3_breakCar) := goodIn_app (goodIn_of _ (by decide +kernel)) ggX4_allThereInWithout_X3_breakCar
set_option maxRecDepth 20000 in
theorem ggX4_allThereInWithout_X0_numberIn : GoodIn wsX4_allThereInWithout wsX0_numberIn := goodIn_r _ [68, 37, 41, 170, 171, 172, 173, 174, 175, 176, 177, 178] (by decide +kernel) (by decide +kernel)
set_option maxRecDepth 20000 in
theorem gX4_allThereInWithout_X0_numberIn : GoodIn wsX4_allThereInWithout (wsV RX4 72 RX0 yX0_numberIn wsX0_numberIn) := goodIn_app (goodIn_of _ (by decide +kernel)) ggX4_allThereInWithout_X0_numberIn
set_option maxRecDepth 20000 in
theorem ggX4_allThereInWithout_X3_oneTick : GoodIn wsX4_allThereInWithout wsX3_oneTick := goodIn_r _ [72, 17, 73, 74, 75, 76, 16, 77, 51, 10, 78, 79, 80, 8, 81, 82, 83, 84, 85, 86, 87, 88, 89, 11, 90, 91, 92, 93, 94, 95, 96, 97, 98, 99, 100, 21, 101, 25, 27, 102, 103, 104, 105, 52, 106, 107, 108, 109, 110, 111, 112, 35, 113, 37, 38, 40, 61, 62, 63, 64, 41, 42, 57, 58, 59, 60, 114, 115, 116, 117, 118, 119, 120, 121, 122, 123, 124, 125, 126, 127, 128, 129, 130, 131, 132, 46, 133, 134, 135, 136, 137, 138, 139, 140, 141, 142, 143, 144, 145, 146, 45, 147, 148, 149, 150, 44, 151, 152, 153, 154, 155, 156, 157, 158, 159, 160, 161, 162, 29, 31, 166, 167, 168, 169, 170, 171, 172, 173, 174, 175, 176, 177, 178, 179, 180, 181, 182, 183, 184, 185, 186] (by decide +kernel) (by decide +kernel)
set_option maxRecDepth 20000 in
theorem gX4_allThereInWithout_X3_oneTick : GoodIn wsX4_allThereInWithout (wsV RX4 95 RX3 yX3_oneTick wsX3_oneTick) := goodIn_app (goodIn_of _ (by decide +kernel)) ggX4_allThereInWithout_X3_oneTick
theorem dX4_allThereInWithout_0 : decode cX4_allThereInWithout 0 = .ok (.aload_n 0, 1) := by decide +kernel
theorem dX4_allThereInWithout_1 : decode cX4_allThereInWithout 1 = .ok (.getfield 16, 3) := by decide +kernel
theorem dX4_allThereInWithout_4 : decode cX4_allThereInWithout 4 = .ok (.aload_n 0, 1) := by decide +kernel
theorem dX4_allThereInWithout_5 : decode cX4_allThereInWithout 5 = .ok (.getfield 10, 3) := by decide +kernel
theorem dX4_allThereInWithout_8 : decode cX4_allThereInWithout 8 = .ok (.invokevirtual 172, 3) := by decide +kernel
theorem dX4_allThereInWithout_11 : decode cX4_allThereInWithout 11 = .ok (.aload_n 0, 1) := by decide +kernel
theorem dX4_allThereInWithout_12 : decode cX4_allThereInWithout 12 = .ok (.getfield 16, 3) := by decide +kernel
theorem dX4_allThereInWithout_15 : decode cX4_allThereInWithout 15 = .ok (.iload_n 1, 1) := by decide +kernel
theorem dX4_allThereInWithout_16 : decode cX4_allThereInWithout 16 = .ok (.invokevirtual 68, 3) := by decide +kernel
theorem dX4_allThereInWithout_19 : decode cX4_allThereInWithout 19 = .ok (.iconst 0, 1) := by decide +kernel
theorem dX4_allThereInWithout_20 : decode cX4_allThereInWithout 20 = .ok (.istore_n 2, 1) := by decide +kernel
theorem dX4_allThereInWithout_21 : decode cX4_allThereInWithout 21 = .ok (.iload_n 2, 1) := by decide +kernel
theorem dX4_allThereInWithout_22 : decode cX4_allThereInWithout 22 = .ok (.sipush 400, 3) := by decide +kernel
theorem dX4_allThereInWithout_25 : decode cX4_allThereInWithout 25 = .ok (.if_icmp .gt 42, 3) := by decide +kernel
theorem dX4_allThereInWithout_28 : decode cX4_allThereInWithout 28 = .ok (.aload_n 0, 1) := by decide +kernel
theorem dX4_allThereInWithout_29 : decode cX4_allThereInWithout 29 = .ok (.getfield 16, 3) := by decide +kernel
theorem dX4_allThereInWithout_32 : decode cX4_allThereInWithout 32 = .ok (.getfield 58, 3) := by decide +kernel
theorem dX4_allThereInWithout_35 : decode cX4_allThereInWithout 35 = .ok (.iconst 3, 1) := by decide +kernel
theorem dX4_allThereInWithout_36 : decode cX4_allThereInWithout 36 = .ok (.invokevirtual 72, 3) := by decide +kernel
theorem dX4_allThereInWithout_39 : decode cX4_allThereInWithout 39 = .ok (.aload_n 0, 1) := by decide +kernel
theorem dX4_allThereInWithout_40 : decode cX4_allThereInWithout 40 = .ok (.getfield 16, 3) := by decide +kernel
theorem dX4_allThereInWithout_43 : decode cX4_allThereInWithout 43 = .ok (.getfield 58, 3) := by decide +kernel
theorem dX4_allThereInWithout_46 : decode cX4_allThereInWithout 46 = .ok (.getfield 82, 3) := by decide +kernel
theorem dX4_allThereInWithout_49 : decode cX4_allThereInWithout 49 = .ok (.if_icmp .ne 5, 3) := by decide +kernel
theorem dX4_allThereInWithout_52 : decode cX4_allThereInWithout 52 = .ok (.iload_n 2, 1) := by decide +kernel
theorem dX4_allThereInWithout_53 : decode cX4_allThereInWithout 53 = .ok (.ireturn, 1) := by decide +kernel
theorem dX4_allThereInWithout_54 : decode cX4_allThereInWithout 54 = .ok (.aload_n 0, 1) := by decide +kernel
theorem dX4_allThereInWithout_55 : decode cX4_allThereInWithout 55 = .ok (.getfield 16, 3) := by decide +kernel
theorem dX4_allThereInWithout_58 : decode cX4_allThereInWithout 58 = .ok (.invokevirtual 95, 3) := by decide +kernel
theorem dX4_allThereInWithout_61 : decode cX4_allThereInWithout 61 = .ok (.iinc 2 1, 3) := by decide +kernel
theorem dX4_allThereInWithout_64 : decode cX4_allThereInWithout 64 = .ok (.goto (-43), 3) := by decide +kernel
theorem dX4_allThereInWithout_67 : decode cX4_allThereInWithout 67 = .ok (.sipush 401, 3) := by decide +kernel
theorem dX4_allThereInWithout_70 : decode cX4_allThereInWithout 70 = .ok (.ireturn, 1) := by decide +kernel
end
section
theorem dX5_init_0 : decode cX5_init 0 = .ok (.aload_n 0, 1) := by decide +kernel
theorem dX5_init_1 : decode cX5_init 1 = .ok (.invokespecial 1, 3) := by decide +kernel
theorem dX5_init_4 : decode cX5_init 4 = .ok (.aload_n 0, 1) := by decide +kernel
theorem dX5_init_5 : decode cX5_init 5 = .ok (.sipush 378, 3) := by decide +kernel
theorem dX5_init_8 : decode cX5_init 8 = .ok (.newarray .int, 2) := by decide +kernel
theorem dX5_init_10 : decode cX5_init 10 = .ok (.putfield 7, 3) := by decide +kernel
theorem dX5_init_13 : decode cX5_init 13 = .ok (.aload_n 0, 1) := by decide +kernel
theorem dX5_init_14 : decode cX5_init 14 = .ok (.sipush 1890, 3) := by decide +kernel
theorem dX5_init_17 : decode cX5_init 17 = .ok (.newarray .int, 2) := by decide +kernel
theorem dX5_init_19 : decode cX5_init 19 = .ok (.putfield 13, 3) := by decide +kernel
theorem dX5_init_22 : decode cX5_init 22 = .ok (.aload_n 0, 1) := by decide +kernel
theorem dX5_init_23 : decode cX5_init 23 = .ok (.sipush 378, 3) := by decide +kernel
theorem dX5_init_26 : decode cX5_init 26 = .ok (.newarray .int, 2) := by decide +kernel
theorem dX5_init_28 : decode cX5_init 28 = .ok (.putfield 16, 3) := by decide +kernel
theorem dX5_init_31 : decode cX5_init 31 = .ok (.aload_n 0, 1) := by decide +kernel
theorem dX5_init_32 : decode cX5_init 32 = .ok (.sipush 378, 3) := by decide +kernel
theorem dX5_init_35 : decode cX5_init 35 = .ok (.newarray .int, 2) := by decide +kernel
theorem dX5_init_37 : decode cX5_init 37 = .ok (.putfield 19, 3) := by decide +kernel
theorem dX5_init_40 : decode cX5_init 40 = .ok (.iconst 0, 1) := by decide +kernel
theorem dX5_init_41 : decode cX5_init 41 = .ok (.istore_n 1, 1) := by decide +kernel
theorem dX5_init_42 : decode cX5_init 42 = .ok (.iload_n 1, 1) := by decide +kernel
theorem dX5_init_43 : decode cX5_init 43 = .ok (.bipush 24, 2) := by decide +kernel
theorem dX5_init_45 : decode cX5_init 45 = .ok (.if_icmp .ge 18, 3) := by decide +kernel
theorem dX5_init_48 : decode cX5_init 48 = .ok (.aload_n 0, 1) := by decide +kernel
theorem dX5_init_49 : decode cX5_init 49 = .ok (.getfield 7, 3) := by decide +kernel
theorem dX5_init_52 : decode cX5_init 52 = .ok (.iconst 4, 1) := by decide +kernel
theorem dX5_init_53 : decode cX5_init 53 = .ok (.iload_n 1, 1) := by decide +kernel
theorem dX5_init_54 : decode cX5_init 54 = .ok (.iadd, 1) := by decide +kernel
theorem dX5_init_55 : decode cX5_init 55 = .ok (.iconst 5, 1) := by decide +kernel
theorem dX5_init_56 : decode cX5_init 56 = .ok (.iastore, 1) := by decide +kernel
theorem dX5_init_57 : decode cX5_init 57 = .ok (.iinc 1 1, 3) := by decide +kernel
theorem dX5_init_60 : decode cX5_init 60 = .ok (.goto (-18), 3) := by decide +kernel
theorem dX5_init_63 : decode cX5_init 63 = .ok (.return_, 1) := by decide +kernel
theorem dX5_in_0 : decode cX5_in 0 = .ok (.iload_n 0, 1) := by decide +kernel
theorem dX5_in_1 : decode cX5_in 1 = .ok (.iload_n 1, 1) := by decide +kernel
theorem dX5_in_2 : decode cX5_in 2 = .ok (.if_icmp .lt 12, 3) := by decide +kernel
theorem dX5_in_5 : decode cX5_in 5 = .ok (.iload_n 0, 1) := by decide +kernel
theorem dX5_in_6 : decode cX5_in 6 = .ok (.iload_n 2, 1) := by decide +kernel
theorem dX5_in_7 : decode cX5_in 7 = .ok (.if_icmp .gt 7, 3) := by decide +kernel
theorem dX5_in_10 : decode cX5_in 10 = .ok (.iconst 1, 1) := by decide +kernel
theorem dX5_in_11 : decode cX5_in 11 = .ok (.goto 4, 3) := by decide +kernel
theorem dX5_in_14 : decode cX5_in 14 = .ok (.iconst 0, 1) := by decide +kernel
theorem dX5_in_15 : decode cX5_in 15 = .ok (.ireturn, 1) := by decide +kernel
theorem dX5_acts_0 : decode cX5_acts 0 = .ok (.aload_n 0, 1) := by decide +kernel
theorem dX5_acts_1 : decode cX5_acts 1 = .ok (.getfield 22, 3) := by decide +kernel
theorem dX5_acts_4 : decode cX5_acts 4 = .ok (.iconst 5, 1) := by decide +kernel
theorem dX5_acts_5 : decode cX5_acts 5 = .ok (.if_icmp .ne 44, 3) := by decide +kernel
theorem dX5_acts_8 : decode cX5_acts 8 = .ok (.iconst 0, 1) := by decide +kernel
theorem dX5_acts_9 : decode cX5_acts 9 = .ok (.istore_n 1, 1) := by decide +kernel
theorem dX5_acts_10 : decode cX5_acts 10 = .ok (.iload_n 1, 1) := by decide +kernel
theorem dX5_acts_11 : decode cX5_acts 11 = .ok (.sipush 1512, 3) := by decide +kernel
theorem dX5_acts_14 : decode cX5_acts 14 = .ok (.if_icmp .ge 25, 3) := by decide +kernel
theorem dX5_acts_17 : decode cX5_acts 17 = .ok (.aload_n 0, 1) := by decide +kernel
theorem dX5_acts_18 : decode cX5_acts 18 = .ok (.getfield 13, 3) := by decide +kernel
theorem dX5_acts_21 : decode cX5_acts 21 = .ok (.iload_n 1, 1) := by decide +kernel
theorem dX5_acts_22 : decode cX5_acts 22 = .ok (.aload_n 0, 1) := by decide +kernel
theorem dX5_acts_23 : decode cX5_acts 23 = .ok (.getfield 13, 3) := by decide +kernel
theorem dX5_acts_26 : decode cX5_acts 26 = .ok (.iload_n 1, 1) := by decide +kernel
theorem dX5_acts_27 : decode cX5_acts 27 = .ok (.sipush 378, 3) := by decide +kernel
theorem dX5_acts_30 : decode cX5_acts 30 = .ok (.iadd, 1) := by decide +kernel
theorem dX5_acts_31 : decode cX5_acts 31 = .ok (.iaload, 1) := by decide +kernel
theorem dX5_acts_32 : decode cX5_acts 32 = .ok (.iastore, 1) := by decide +kernel
theorem dX5_acts_33 : decode cX5_acts 33 = .ok (.iinc 1 1, 3) := by decide +kernel
theorem dX5_acts_36 : decode cX5_acts 36 = .ok (.goto (-26), 3) := by decide +kernel
theorem dX5_acts_39 : decode cX5_acts 39 = .ok (.aload_n 0, 1) := by decide +kernel
theorem dX5_acts_40 : decode cX5_acts 40 = .ok (.dup, 1) := by decide +kernel
theorem dX5_acts_41 : decode cX5_acts 41 = .ok (.getfield 22, 3) := by decide +kernel
theorem dX5_acts_44 : decode cX5_acts 44 = .ok (.iconst 1, 1) := by decide +kernel
theorem dX5_acts_45 : decode cX5_acts 45 = .ok (.isub, 1) := by decide +kernel
theorem dX5_acts_46 : decode cX5_acts 46 = .ok (.putfield 22, 3) := by decide +kernel
theorem dX5_acts_49 : decode cX5_acts 49 = .ok (.iconst 0, 1) := by decide +kernel
theorem dX5_acts_50 : decode cX5_acts 50 = .ok (.istore_n 1, 1) := by decide +kernel
theorem dX5_acts_51 : decode cX5_acts 51 = .ok (.iload_n 1, 1) := by decide +kernel
theorem dX5_acts_52 : decode cX5_acts 52 = .ok (.sipush 378, 3) := by decide +kernel
theorem dX5_acts_55 : decode cX5_acts 55 = .ok (.if_icmp .ge 30, 3) := by decide +kernel
theorem dX5_acts_58 : decode cX5_acts 58 = .ok (.aload_n 0, 1) := by decide +kernel
theorem dX5_acts_59 : decode cX5_acts 59 = .ok (.getfield 13, 3) := by decide +kernel
theorem dX5_acts_62 : decode cX5_acts 62 = .ok (.sipush 378, 3) := by decide +kernel
theorem dX5_acts_65 : decode cX5_acts 65 = .ok (.aload_n 0, 1) := by decide +kernel
theorem dX5_acts_66 : decode cX5_acts 66 = .ok (.getfield 22, 3) := by decide +kernel
theorem dX5_acts_69 : decode cX5_acts 69 = .ok (.imul, 1) := by decide +kernel
theorem dX5_acts_70 : decode cX5_acts 70 = .ok (.iload_n 1, 1) := by decide +kernel
theorem dX5_acts_71 : decode cX5_acts 71 = .ok (.iadd, 1) := by decide +kernel
theorem dX5_acts_72 : decode cX5_acts 72 = .ok (.aload_n 0, 1) := by decide +kernel
theorem dX5_acts_73 : decode cX5_acts 73 = .ok (.getfield 7, 3) := by decide +kernel
theorem dX5_acts_76 : decode cX5_acts 76 = .ok (.iload_n 1, 1) := by decide +kernel
theorem dX5_acts_77 : decode cX5_acts 77 = .ok (.iaload, 1) := by decide +kernel
theorem dX5_acts_78 : decode cX5_acts 78 = .ok (.iastore, 1) := by decide +kernel
theorem dX5_acts_79 : decode cX5_acts 79 = .ok (.iinc 1 1, 3) := by decide +kernel
theorem dX5_acts_82 : decode cX5_acts 82 = .ok (.goto (-31), 3) := by decide +kernel
theorem dX5_acts_85 : decode cX5_acts 85 = .ok (.aload_n 0, 1) := by decide +kernel
theorem dX5_acts_86 : decode cX5_acts 86 = .ok (.dup, 1) := by decide +kernel
theorem dX5_acts_87 : decode cX5_acts 87 = .ok (.getfield 22, 3) := by decide +kernel
theorem dX5_acts_90 : decode cX5_acts 90 = .ok (.iconst 1, 1) := by decide +kernel
theorem dX5_acts_91 : decode cX5_acts 91 = .ok (.iadd, 1) := by decide +kernel
theorem dX5_acts_92 : decode cX5_acts 92 = .ok (.putfield 22, 3) := by decide +kernel
theorem dX5_acts_95 : decode cX5_acts 95 = .ok (.return_, 1) := by decide +kernel
theorem dX5_copies_0 : decode cX5_copies 0 = .ok (.iconst 0, 1) := by decide +kernel
theorem dX5_copies_1 : decode cX5_copies 1 = .ok (.istore_n 2, 1) := by decide +kernel
theorem dX5_copies_2 : decode cX5_copies 2 = .ok (.iload_n 2, 1) := by decide +kernel
theorem dX5_copies_3 : decode cX5_copies 3 = .ok (.sipush 378, 3) := by decide +kernel
theorem dX5_copies_6 : decode cX5_copies 6 = .ok (.if_icmp .ge 15, 3) := by decide +kernel
theorem dX5_copies_9 : decode cX5_copies 9 = .ok (.aload_n 1, 1) := by decide +kernel
theorem dX5_copies_10 : decode cX5_copies 10 = .ok (.iload_n 2, 1) := by decide +kernel
theorem dX5_copies_11 : decode cX5_copies 11 = .ok (.aload_n 0, 1) := by decide +kernel
theorem dX5_copies_12 : decode cX5_copies 12 = .ok (.iload_n 2, 1) := by decide +kernel
theorem dX5_copies_13 : decode cX5_copies 13 = .ok (.iaload, 1) := by decide +kernel
theorem dX5_copies_14 : decode cX5_copies 14 = .ok (.iastore, 1) := by decide +kernel
theorem dX5_copies_15 : decode cX5_copies 15 = .ok (.iinc 2 1, 3) := by decide +kernel
theorem dX5_copies_18 : decode cX5_copies 18 = .ok (.goto (-16), 3) := by decide +kernel
theorem dX5_copies_21 : decode cX5_copies 21 = .ok (.return_, 1) := by decide +kernel
theorem dX5_isCar_0 : decode cX5_isCar 0 = .ok (.iload_n 1, 1) := by decide +kernel
theorem dX5_isCar_1 : decode cX5_isCar 1 = .ok (.ifCond .lt 17, 3) := by decide +kernel
theorem dX5_isCar_4 : decode cX5_isCar 4 = .ok (.iload_n 1, 1) := by decide +kernel
theorem dX5_isCar_5 : decode cX5_isCar 5 = .ok (.aload_n 0, 1) := by decide +kernel
theorem dX5_isCar_6 : decode cX5_isCar 6 = .ok (.getfield 7, 3) := by decide +kernel
theorem dX5_isCar_9 : decode cX5_isCar 9 = .ok (.iconst 1, 1) := by decide +kernel
theorem dX5_isCar_10 : decode cX5_isCar 10 = .ok (.iaload, 1) := by decide +kernel
theorem dX5_isCar_11 : decode cX5_isCar 11 = .ok (.if_icmp .ge 7, 3) := by decide +kernel
theorem dX5_isCar_14 : decode cX5_isCar 14 = .ok (.iconst 1, 1) := by decide +kernel
theorem dX5_isCar_15 : decode cX5_isCar 15 = .ok (.goto 4, 3) := by decide +kernel
theorem dX5_isCar_18 : decode cX5_isCar 18 = .ok (.iconst 0, 1) := by decide +kernel
theorem dX5_isCar_19 : decode cX5_isCar 19 = .ok (.ireturn, 1) := by decide +kernel
theorem dX5_isCaller_0 : decode cX5_isCaller 0 = .ok (.iload_n 1, 1) := by decide +kernel
theorem dX5_isCaller_1 : decode cX5_isCaller 1 = .ok (.ifCond .lt 17, 3) := by decide +kernel
theorem dX5_isCaller_4 : decode cX5_isCaller 4 = .ok (.iload_n 1, 1) := by decide +kernel
theorem dX5_isCaller_5 : decode cX5_isCaller 5 = .ok (.aload_n 0, 1) := by decide +kernel
theorem dX5_isCaller_6 : decode cX5_isCaller 6 = .ok (.getfield 7, 3) := by decide +kernel
theorem dX5_isCaller_9 : decode cX5_isCaller 9 = .ok (.iconst 2, 1) := by decide +kernel
theorem dX5_isCaller_10 : decode cX5_isCaller 10 = .ok (.iaload, 1) := by decide +kernel
theorem dX5_isCaller_11 : decode cX5_isCaller 11 = .ok (.if_icmp .ge 7, 3) := by decide +kernel
theorem dX5_isCaller_14 : decode cX5_isCaller 14 = .ok (.iconst 1, 1) := by decide +kernel
theorem dX5_isCaller_15 : decode cX5_isCaller 15 = .ok (.goto 4, 3) := by decide +kernel
theorem dX5_isCaller_18 : decode cX5_isCaller 18 = .ok (.iconst 0, 1) := by decide +kernel
theorem dX5_isCaller_19 : decode cX5_isCaller 19 = .ok (.ireturn, 1) := by decide +kernel
set_option maxRecDepth 20000 in
theorem ggX5_isFloor_X5_in : GoodIn wsX5_isFloor wsX5_in := goodIn_r _ [4] (by decide +kernel) (by decide +kernel)
set_option maxRecDepth 20000 in
theorem gX5_isFloor_X5_in : GoodIn wsX5_isFloor (va_wsS RX5 26 yX5_in wsX5_in) := goodIn_app (goodIn_of _ (by decide +kernel)) ggX5_isFloor_X5_in
theorem dX5_isFloor_0 : decode cX5_isFloor 0 = .ok (.iload_n 0, 1) := by decide +kernel
theorem dX5_isFloor_1 : decode cX5_isFloor 1 = .ok (.iconst 0, 1) := by decide +kernel
theorem dX5_isFloor_2 : decode cX5_isFloor 2 = .ok (.bipush 15, 2) := by decide +kernel
theorem dX5_isFloor_4 : decode cX5_isFloor 4 = .ok (.invokestatic 26, 3) := by decide +kernel
theorem dX5_isFloor_7 : decode cX5_isFloor 7 = .ok (.ireturn, 1) := by decide +kernel
theorem dX5_ofCar_0 : decode cX5_ofCar 0 = .ok (.aload_n 0, 1) := by decide +kernel
theorem dX5_ofCar_1 : decode cX5_ofCar 1 = .ok (.getfield 7, 3) := by decide +kernel
theorem dX5_ofCar_4 : decode cX5_ofCar 4 = .ok (.bipush 28, 2) := by decide +kernel
theorem dX5_ofCar_6 : decode cX5_ofCar 6 = .ok (.bipush 6, 2) := by decide +kernel
theorem dX5_ofCar_8 : decode cX5_ofCar 8 = .ok (.iload_n 1, 1) := by decide +kernel
theorem dX5_ofCar_9 : decode cX5_ofCar 9 = .ok (.imul, 1) := by decide +kernel
theorem dX5_ofCar_10 : decode cX5_ofCar 10 = .ok (.iadd, 1) := by decide +kernel
theorem dX5_ofCar_11 : decode cX5_ofCar 11 = .ok (.iload_n 2, 1) := by decide +kernel
theorem dX5_ofCar_12 : decode cX5_ofCar 12 = .ok (.iadd, 1) := by decide +kernel
theorem dX5_ofCar_13 : decode cX5_ofCar 13 = .ok (.iaload, 1) := by decide +kernel
theorem dX5_ofCar_14 : decode cX5_ofCar 14 = .ok (.ireturn, 1) := by decide +kernel
theorem dX5_putsCar_0 : decode cX5_putsCar 0 = .ok (.aload_n 0, 1) := by decide +kernel
theorem dX5_putsCar_1 : decode cX5_putsCar 1 = .ok (.getfield 7, 3) := by decide +kernel
theorem dX5_putsCar_4 : decode cX5_putsCar 4 = .ok (.bipush 28, 2) := by decide +kernel
theorem dX5_putsCar_6 : decode cX5_putsCar 6 = .ok (.bipush 6, 2) := by decide +kernel
theorem dX5_putsCar_8 : decode cX5_putsCar 8 = .ok (.iload_n 1, 1) := by decide +kernel
theorem dX5_putsCar_9 : decode cX5_putsCar 9 = .ok (.imul, 1) := by decide +kernel
theorem dX5_putsCar_10 : decode cX5_putsCar 10 = .ok (.iadd, 1) := by decide +kernel
theorem dX5_putsCar_11 : decode cX5_putsCar 11 = .ok (.iload_n 2, 1) := by decide +kernel
theorem dX5_putsCar_12 : decode cX5_putsCar 12 = .ok (.iadd, 1) := by decide +kernel
theorem dX5_putsCar_13 : decode cX5_putsCar 13 = .ok (.iload_n 3, 1) := by decide +kernel
theorem dX5_putsCar_14 : decode cX5_putsCar 14 = .ok (.iastore, 1) := by decide +kernel
theorem dX5_putsCar_15 : decode cX5_putsCar 15 = .ok (.return_, 1) := by decide +kernel
theorem dX5_ofCaller_0 : decode cX5_ofCaller 0 = .ok (.aload_n 0, 1) := by decide +kernel
theorem dX5_ofCaller_1 : decode cX5_ofCaller 1 = .ok (.getfield 7, 3) := by decide +kernel
theorem dX5_ofCaller_4 : decode cX5_ofCaller 4 = .ok (.bipush 58, 2) := by decide +kernel
theorem dX5_ofCaller_6 : decode cX5_ofCaller 6 = .ok (.bipush 8, 2) := by decide +kernel
theorem dX5_ofCaller_8 : decode cX5_ofCaller 8 = .ok (.iload_n 1, 1) := by decide +kernel
theorem dX5_ofCaller_9 : decode cX5_ofCaller 9 = .ok (.imul, 1) := by decide +kernel
theorem dX5_ofCaller_10 : decode cX5_ofCaller 10 = .ok (.iadd, 1) := by decide +kernel
theorem dX5_ofCaller_11 : decode cX5_ofCaller 11 = .ok (.iload_n 2, 1) := by decide +kernel
theorem dX5_ofCaller_12 : decode cX5_ofCaller 12 = .ok (.iadd, 1) := by decide +kernel
theorem dX5_ofCaller_13 : decode cX5_ofCaller 13 = .ok (.iaload, 1) := by decide +kernel
theorem dX5_ofCaller_14 : decode cX5_ofCaller 14 = .ok (.ireturn, 1) := by decide +kernel
theorem dX5_puts_0 : decode cX5_puts 0 = .ok (.aload_n 0, 1) := by decide +kernel
theorem dX5_puts_1 : decode cX5_puts 1 = .ok (.getfield 7, 3) := by decide +kernel
theorem dX5_puts_4 : decode cX5_puts 4 = .ok (.bipush 58, 2) := by decide +kernel
theorem dX5_puts_6 : decode cX5_puts 6 = .ok (.bipush 8, 2) := by decide +kernel
theorem dX5_puts_8 : decode cX5_puts 8 = .ok (.iload_n 1, 1) := by decide +kernel
theorem dX5_puts_9 : decode cX5_puts 9 = .ok (.imul, 1) := by decide +kernel
theorem dX5_puts_10 : decode cX5_puts 10 = .ok (.iadd, 1) := by decide +kernel
theorem dX5_puts_11 : decode cX5_puts 11 = .ok (.iload_n 2, 1) := by decide +kernel
theorem dX5_puts_12 : decode cX5_puts 12 = .ok (.iadd, 1) := by decide +kernel
theorem dX5_puts_13 : decode cX5_puts 13 = .ok (.iload_n 3, 1) := by decide +kernel
theorem dX5_puts_14 : decode cX5_puts 14 = .ok (.iastore, 1) := by decide +kernel
theorem dX5_puts_15 : decode cX5_puts 15 = .ok (.return_, 1) := by decide +kernel
theorem dX5_hour_0 : decode cX5_hour 0 = .ok (.aload_n 0, 1) := by decide +kernel
theorem dX5_hour_1 : decode cX5_hour 1 = .ok (.getfield 7, 3) := by decide +kernel
theorem dX5_hour_4 : decode cX5_hour 4 = .ok (.iconst 0, 1) := by decide +kernel
theorem dX5_hour_5 : decode cX5_hour 5 = .ok (.iaload, 1) := by decide +kernel
theorem dX5_hour_6 : decode cX5_hour 6 = .ok (.bipush 60, 2) := by decide +kernel
theorem dX5_hour_8 : decode cX5_hour 8 = .ok (.idiv, 1) := by decide +kernel
theorem dX5_hour_9 : decode cX5_hour 9 = .ok (.bipush 24, 2) := by decide +kernel
theorem dX5_hour_11 : decode cX5_hour 11 = .ok (.irem, 1) := by decide +kernel
theorem dX5_hour_12 : decode cX5_hour 12 = .ok (.ireturn, 1) := by decide +kernel
set_option maxRecDepth 20000 in
theorem ggX5_isAwake_X5_hour : GoodIn wsX5_isAwake wsX5_hour := goodIn_r _ [6, 1, 7, 8, 9, 10, 11] (by decide +kernel) (by decide +kernel)
set_option maxRecDepth 20000 in
theorem gX5_isAwake_X5_hour : GoodIn wsX5_isAwake (wsV RX5 30 RX5 yX5_hour wsX5_hour) := goodIn_app (goodIn_of _ (by decide +kernel)) ggX5_isAwake_X5_hour
theorem dX5_isAwake_0 : decode cX5_isAwake 0 = .ok (.iload_n 1, 1) := by decide +kernel
theorem dX5_isAwake_1 : decode cX5_isAwake 1 = .ok (.aload_n 0, 1) := by decide +kernel
theorem dX5_isAwake_2 : decode cX5_isAwake 2 = .ok (.getfield 7, 3) := by decide +kernel
theorem dX5_isAwake_5 : decode cX5_isAwake 5 = .ok (.iconst 4, 1) := by decide +kernel
theorem dX5_isAwake_6 : decode cX5_isAwake 6 = .ok (.aload_n 0, 1) := by decide +kernel
theorem dX5_isAwake_7 : decode cX5_isAwake 7 = .ok (.invokevirtual 30, 3) := by decide +kernel
theorem dX5_isAwake_10 : decode cX5_isAwake 10 = .ok (.iadd, 1) := by decide +kernel
theorem dX5_isAwake_11 : decode cX5_isAwake 11 = .ok (.iaload, 1) := by decide +kernel
theorem dX5_isAwake_12 : decode cX5_isAwake 12 = .ok (.if_icmp .ge 7, 3) := by decide +kernel
theorem dX5_isAwake_15 : decode cX5_isAwake 15 = .ok (.iconst 1, 1) := by decide +kernel
theorem dX5_isAwake_16 : decode cX5_isAwake 16 = .ok (.goto 4, 3) := by decide +kernel
theorem dX5_isAwake_19 : decode cX5_isAwake 19 = .ok (.iconst 0, 1) := by decide +kernel
theorem dX5_isAwake_20 : decode cX5_isAwake 20 = .ok (.ireturn, 1) := by decide +kernel
set_option maxRecDepth 20000 in
theorem ggX5_many_X5_ofCaller : GoodIn wsX5_many wsX5_ofCaller := goodIn_r _ [6, 1, 7, 8, 9, 10, 11] (by decide +kernel) (by decide +kernel)
set_option maxRecDepth 20000 in
theorem gX5_many_X5_ofCaller : GoodIn wsX5_many (wsV RX5 34 RX5 yX5_ofCaller wsX5_ofCaller) := goodIn_app (goodIn_of _ (by decide +kernel)) ggX5_many_X5_ofCaller
theorem dX5_many_0 : decode cX5_many 0 = .ok (.iconst 0, 1) := by decide +kernel
theorem dX5_many_1 : decode cX5_many 1 = .ok (.istore_n 3, 1) := by decide +kernel
theorem dX5_many_2 : decode cX5_many 2 = .ok (.iconst 0, 1) := by decide +kernel
theorem dX5_many_3 : decode cX5_many 3 = .ok (.istore 4, 2) := by decide +kernel
theorem dX5_many_5 : decode cX5_many 5 = .ok (.iload 4, 2) := by decide +kernel
theorem dX5_many_7 : decode cX5_many 7 = .ok (.aload_n 0, 1) := by decide +kernel
theorem dX5_many_8 : decode cX5_many 8 = .ok (.getfield 7, 3) := by decide +kernel
theorem dX5_many_11 : decode cX5_many 11 = .ok (.iconst 2, 1) := by decide +kernel
theorem dX5_many_12 : decode cX5_many 12 = .ok (.iaload, 1) := by decide +kernel
theorem dX5_many_13 : decode cX5_many 13 = .ok (.if_icmp .ge 39, 3) := by decide +kernel
theorem dX5_many_16 : decode cX5_many 16 = .ok (.iload_n 3, 1) := by decide +kernel
theorem dX5_many_17 : decode cX5_many 17 = .ok (.aload_n 0, 1) := by decide +kernel
theorem dX5_many_18 : decode cX5_many 18 = .ok (.iload 4, 2) := by decide +kernel
theorem dX5_many_20 : decode cX5_many 20 = .ok (.iconst 2, 1) := by decide +kernel
theorem dX5_many_21 : decode cX5_many 21 = .ok (.invokevirtual 34, 3) := by decide +kernel
theorem dX5_many_24 : decode cX5_many 24 = .ok (.iload_n 2, 1) := by decide +kernel
theorem dX5_many_25 : decode cX5_many 25 = .ok (.if_icmp .ne 18, 3) := by decide +kernel
theorem dX5_many_28 : decode cX5_many 28 = .ok (.aload_n 0, 1) := by decide +kernel
theorem dX5_many_29 : decode cX5_many 29 = .ok (.iload 4, 2) := by decide +kernel
theorem dX5_many_31 : decode cX5_many 31 = .ok (.iconst 3, 1) := by decide +kernel
theorem dX5_many_32 : decode cX5_many 32 = .ok (.invokevirtual 34, 3) := by decide +kernel
theorem dX5_many_35 : decode cX5_many 35 = .ok (.iload_n 1, 1) := by decide +kernel
theorem dX5_many_36 : decode cX5_many 36 = .ok (.if_icmp .ne 7, 3) := by decide +kernel
theorem dX5_many_39 : decode cX5_many 39 = .ok (.iconst 1, 1) := by decide +kernel
theorem dX5_many_40 : decode cX5_many 40 = .ok (.goto 4, 3) := by decide +kernel
theorem dX5_many_43 : decode cX5_many 43 = .ok (.iconst 0, 1) := by decide +kernel
theorem dX5_many_44 : decode cX5_many 44 = .ok (.iadd, 1) := by decide +kernel
theorem dX5_many_45 : decode cX5_many 45 = .ok (.istore_n 3, 1) := by decide +kernel
theorem dX5_many_46 : decode cX5_many 46 = .ok (.iinc 4 1, 3) := by decide +kernel
theorem dX5_many_49 : decode cX5_many 49 = .ok (.goto (-44), 3) := by decide +kernel
theorem dX5_many_52 : decode cX5_many 52 = .ok (.iload_n 3, 1) := by decide +kernel
theorem dX5_many_53 : decode cX5_many 53 = .ok (.ireturn, 1) := by decide +kernel
set_option maxRecDepth 20000 in
theorem ggX5_inAll_X5_ofCaller : GoodIn wsX5_inAll wsX5_ofCaller := goodIn_r _ [6, 1, 7, 8, 9, 10, 11] (by decide +kernel) (by decide +kernel)
set_option maxRecDepth 20000 in
theorem gX5_inAll_X5_ofCaller : GoodIn wsX5_inAll (wsV RX5 34 RX5 yX5_ofCaller wsX5_ofCaller) := goodIn_app (goodIn_of _ (by decide +kernel)) ggX5_inAll_X5_ofCaller
theorem dX5_inAll_0 : decode cX5_inAll 0 = .ok (.iconst 0, 1) := by decide +kernel
theorem dX5_inAll_1 : decode cX5_inAll 1 = .ok (.istore_n 2, 1) := by decide +kernel
theorem dX5_inAll_2 : decode cX5_inAll 2 = .ok (.iconst 0, 1) := by decide +kernel
theorem dX5_inAll_3 : decode cX5_inAll 3 = .ok (.istore_n 3, 1) := by decide +kernel
theorem dX5_inAll_4 : decode cX5_inAll 4 = .ok (.iload_n 3, 1) := by decide +kernel
theorem dX5_inAll_5 : decode cX5_inAll 5 = .ok (.aload_n 0, 1) := by decide +kernel
theorem dX5_inAll_6 : decode cX5_inAll 6 = .ok (.getfield 7, 3) := by decide +kernel
theorem dX5_inAll_9 : decode cX5_inAll 9 = .ok (.iconst 2, 1) := by decide +kernel
theorem dX5_inAll_10 : decode cX5_inAll 10 = .ok (.iaload, 1) := by decide +kernel
theorem dX5_inAll_11 : decode cX5_inAll 11 = .ok (.if_icmp .ge 27, 3) := by decide +kernel
theorem dX5_inAll_14 : decode cX5_inAll 14 = .ok (.iload_n 2, 1) := by decide +kernel
theorem dX5_inAll_15 : decode cX5_inAll 15 = .ok (.aload_n 0, 1) := by decide +kernel
theorem dX5_inAll_16 : decode cX5_inAll 16 = .ok (.iload_n 3, 1) := by decide +kernel
theorem dX5_inAll_17 : decode cX5_inAll 17 = .ok (.iconst 2, 1) := by decide +kernel
theorem dX5_inAll_18 : decode cX5_inAll 18 = .ok (.invokevirtual 34, 3) := by decide +kernel
theorem dX5_inAll_21 : decode cX5_inAll 21 = .ok (.iload_n 1, 1) := by decide +kernel
theorem dX5_inAll_22 : decode cX5_inAll 22 = .ok (.if_icmp .ne 7, 3) := by decide +kernel
theorem dX5_inAll_25 : decode cX5_inAll 25 = .ok (.iconst 1, 1) := by decide +kernel
theorem dX5_inAll_26 : decode cX5_inAll 26 = .ok (.goto 4, 3) := by decide +kernel
theorem dX5_inAll_29 : decode cX5_inAll 29 = .ok (.iconst 0, 1) := by decide +kernel
theorem dX5_inAll_30 : decode cX5_inAll 30 = .ok (.iadd, 1) := by decide +kernel
theorem dX5_inAll_31 : decode cX5_inAll 31 = .ok (.istore_n 2, 1) := by decide +kernel
theorem dX5_inAll_32 : decode cX5_inAll 32 = .ok (.iinc 3 1, 3) := by decide +kernel
theorem dX5_inAll_35 : decode cX5_inAll 35 = .ok (.goto (-31), 3) := by decide +kernel
theorem dX5_inAll_38 : decode cX5_inAll 38 = .ok (.iload_n 2, 1) := by decide +kernel
theorem dX5_inAll_39 : decode cX5_inAll 39 = .ok (.ireturn, 1) := by decide +kernel
set_option maxRecDepth 20000 in
theorem ggX5_stops_X5_ofCaller : GoodIn wsX5_stops wsX5_ofCaller := goodIn_r _ [6, 1, 10, 11, 12, 13, 14] (by decide +kernel) (by decide +kernel)
set_option maxRecDepth 20000 in
theorem gX5_stops_X5_ofCaller : GoodIn wsX5_stops (wsV RX5 34 RX5 yX5_ofCaller wsX5_ofCaller) := goodIn_app (goodIn_of _ (by decide +kernel)) ggX5_stops_X5_ofCaller
set_option maxRecDepth 20000 in
theorem ggX5_stops_X5_in : GoodIn wsX5_stops wsX5_in := goodIn_r _ [9] (by decide +kernel) (by decide +kernel)
set_option maxRecDepth 20000 in
theorem gX5_stops_X5_in : GoodIn wsX5_stops (va_wsS RX5 26 yX5_in wsX5_in) := goodIn_app (goodIn_of _ (by decide +kernel)) ggX5_stops_X5_in
theorem dX5_stops_0 : decode cX5_stops 0 = .ok (.iconst 0, 1) := by decide +kernel
theorem dX5_stops_1 : decode cX5_stops 1 = .ok (.istore_n 2, 1) := by decide +kernel
theorem dX5_stops_2 : decode cX5_stops 2 = .ok (.iconst 0, 1) := by decide +kernel
theorem dX5_stops_3 : decode cX5_stops 3 = .ok (.istore_n 3, 1) := by decide +kernel
theorem dX5_stops_4 : decode cX5_stops 4 = .ok (.iload_n 3, 1) := by decide +kernel
theorem dX5_stops_5 : decode cX5_stops 5 = .ok (.aload_n 0, 1) := by decide +kernel
theorem dX5_stops_6 : decode cX5_stops 6 = .ok (.getfield 7, 3) := by decide +kernel
theorem dX5_stops_9 : decode cX5_stops 9 = .ok (.iconst 2, 1) := by decide +kernel
theorem dX5_stops_10 : decode cX5_stops 10 = .ok (.iaload, 1) := by decide +kernel
theorem dX5_stops_11 : decode cX5_stops 11 = .ok (.if_icmp .ge 67, 3) := by decide +kernel
theorem dX5_stops_14 : decode cX5_stops 14 = .ok (.aload_n 0, 1) := by decide +kernel
theorem dX5_stops_15 : decode cX5_stops 15 = .ok (.iload_n 3, 1) := by decide +kernel
theorem dX5_stops_16 : decode cX5_stops 16 = .ok (.iconst 3, 1) := by decide +kernel
theorem dX5_stops_17 : decode cX5_stops 17 = .ok (.invokevirtual 34, 3) := by decide +kernel
theorem dX5_stops_20 : decode cX5_stops 20 = .ok (.iload_n 1, 1) := by decide +kernel
theorem dX5_stops_21 : decode cX5_stops 21 = .ok (.if_icmp .ne 51, 3) := by decide +kernel
theorem dX5_stops_24 : decode cX5_stops 24 = .ok (.aload_n 0, 1) := by decide +kernel
theorem dX5_stops_25 : decode cX5_stops 25 = .ok (.iload_n 3, 1) := by decide +kernel
theorem dX5_stops_26 : decode cX5_stops 26 = .ok (.iconst 2, 1) := by decide +kernel
theorem dX5_stops_27 : decode cX5_stops 27 = .ok (.invokevirtual 34, 3) := by decide +kernel
theorem dX5_stops_30 : decode cX5_stops 30 = .ok (.iconst 1, 1) := by decide +kernel
theorem dX5_stops_31 : decode cX5_stops 31 = .ok (.iconst 2, 1) := by decide +kernel
theorem dX5_stops_32 : decode cX5_stops 32 = .ok (.invokestatic 26, 3) := by decide +kernel
theorem dX5_stops_35 : decode cX5_stops 35 = .ok (.ifCond .eq 37, 3) := by decide +kernel
theorem dX5_stops_38 : decode cX5_stops 38 = .ok (.iload_n 2, 1) := by decide +kernel
theorem dX5_stops_39 : decode cX5_stops 39 = .ok (.iconst 1, 1) := by decide +kernel
theorem dX5_stops_40 : decode cX5_stops 40 = .ok (.aload_n 0, 1) := by decide +kernel
theorem dX5_stops_41 : decode cX5_stops 41 = .ok (.iload_n 3, 1) := by decide +kernel
theorem dX5_stops_42 : decode cX5_stops 42 = .ok (.iconst 1, 1) := by decide +kernel
theorem dX5_stops_43 : decode cX5_stops 43 = .ok (.invokevirtual 34, 3) := by decide +kernel
theorem dX5_stops_46 : decode cX5_stops 46 = .ok (.ishl, 1) := by decide +kernel
theorem dX5_stops_47 : decode cX5_stops 47 = .ok (.aload_n 0, 1) := by decide +kernel
theorem dX5_stops_48 : decode cX5_stops 48 = .ok (.iload_n 3, 1) := by decide +kernel
theorem dX5_stops_49 : decode cX5_stops 49 = .ok (.iconst 2, 1) := by decide +kernel
theorem dX5_stops_50 : decode cX5_stops 50 = .ok (.invokevirtual 34, 3) := by decide +kernel
theorem dX5_stops_53 : decode cX5_stops 53 = .ok (.iconst 1, 1) := by decide +kernel
theorem dX5_stops_54 : decode cX5_stops 54 = .ok (.if_icmp .ne 14, 3) := by decide +kernel
theorem dX5_stops_57 : decode cX5_stops 57 = .ok (.iconst 1, 1) := by decide +kernel
theorem dX5_stops_58 : decode cX5_stops 58 = .ok (.aload_n 0, 1) := by decide +kernel
theorem dX5_stops_59 : decode cX5_stops 59 = .ok (.iload_n 3, 1) := by decide +kernel
theorem dX5_stops_60 : decode cX5_stops 60 = .ok (.iconst 0, 1) := by decide +kernel
theorem dX5_stops_61 : decode cX5_stops 61 = .ok (.invokevirtual 34, 3) := by decide +kernel
theorem dX5_stops_64 : decode cX5_stops 64 = .ok (.ishl, 1) := by decide +kernel
theorem dX5_stops_65 : decode cX5_stops 65 = .ok (.goto 4, 3) := by decide +kernel
theorem dX5_stops_68 : decode cX5_stops 68 = .ok (.iconst 0, 1) := by decide +kernel
theorem dX5_stops_69 : decode cX5_stops 69 = .ok (.ior, 1) := by decide +kernel
theorem dX5_stops_70 : decode cX5_stops 70 = .ok (.ior, 1) := by decide +kernel
theorem dX5_stops_71 : decode cX5_stops 71 = .ok (.istore_n 2, 1) := by decide +kernel
theorem dX5_stops_72 : decode cX5_stops 72 = .ok (.iinc 3 1, 3) := by decide +kernel
theorem dX5_stops_75 : decode cX5_stops 75 = .ok (.goto (-71), 3) := by decide +kernel
theorem dX5_stops_78 : decode cX5_stops 78 = .ok (.iload_n 2, 1) := by decide +kernel
theorem dX5_stops_79 : decode cX5_stops 79 = .ok (.ireturn, 1) := by decide +kernel
theorem dX5_ones_0 : decode cX5_ones 0 = .ok (.iconst 0, 1) := by decide +kernel
theorem dX5_ones_1 : decode cX5_ones 1 = .ok (.istore_n 1, 1) := by decide +kernel
theorem dX5_ones_2 : decode cX5_ones 2 = .ok (.iconst 0, 1) := by decide +kernel
theorem dX5_ones_3 : decode cX5_ones 3 = .ok (.istore_n 2, 1) := by decide +kernel
theorem dX5_ones_4 : decode cX5_ones 4 = .ok (.iload_n 2, 1) := by decide +kernel
theorem dX5_ones_5 : decode cX5_ones 5 = .ok (.bipush 16, 2) := by decide +kernel
theorem dX5_ones_7 : decode cX5_ones 7 = .ok (.if_icmp .ge 17, 3) := by decide +kernel
theorem dX5_ones_10 : decode cX5_ones 10 = .ok (.iload_n 1, 1) := by decide +kernel
theorem dX5_ones_11 : decode cX5_ones 11 = .ok (.iload_n 0, 1) := by decide +kernel
theorem dX5_ones_12 : decode cX5_ones 12 = .ok (.iload_n 2, 1) := by decide +kernel
theorem dX5_ones_13 : decode cX5_ones 13 = .ok (.ishr, 1) := by decide +kernel
theorem dX5_ones_14 : decode cX5_ones 14 = .ok (.iconst 1, 1) := by decide +kernel
theorem dX5_ones_15 : decode cX5_ones 15 = .ok (.iand, 1) := by decide +kernel
theorem dX5_ones_16 : decode cX5_ones 16 = .ok (.iadd, 1) := by decide +kernel
theorem dX5_ones_17 : decode cX5_ones 17 = .ok (.istore_n 1, 1) := by decide +kernel
theorem dX5_ones_18 : decode cX5_ones 18 = .ok (.iinc 2 1, 3) := by decide +kernel
theorem dX5_ones_21 : decode cX5_ones 21 = .ok (.goto (-17), 3) := by decide +kernel
theorem dX5_ones_24 : decode cX5_ones 24 = .ok (.iload_n 1, 1) := by decide +kernel
theorem dX5_ones_25 : decode cX5_ones 25 = .ok (.ireturn, 1) := by decide +kernel
theorem dX5_far_0 : decode cX5_far 0 = .ok (.iload_n 0, 1) := by decide +kernel
theorem dX5_far_1 : decode cX5_far 1 = .ok (.iload_n 1, 1) := by decide +kernel
theorem dX5_far_2 : decode cX5_far 2 = .ok (.if_icmp .ge 9, 3) := by decide +kernel
theorem dX5_far_5 : decode cX5_far 5 = .ok (.iload_n 1, 1) := by decide +kernel
theorem dX5_far_6 : decode cX5_far 6 = .ok (.iload_n 0, 1) := by decide +kernel
theorem dX5_far_7 : decode cX5_far 7 = .ok (.isub, 1) := by decide +kernel
theorem dX5_far_8 : decode cX5_far 8 = .ok (.goto 6, 3) := by decide +kernel
theorem dX5_far_11 : decode cX5_far 11 = .ok (.iload_n 0, 1) := by decide +kernel
theorem dX5_far_12 : decode cX5_far 12 = .ok (.iload_n 1, 1) := by decide +kernel
theorem dX5_far_13 : decode cX5_far 13 = .ok (.isub, 1) := by decide +kernel
theorem dX5_far_14 : decode cX5_far 14 = .ok (.ireturn, 1) := by decide +kernel
set_option maxRecDepth 20000 in
theorem ggX5_canBeGiven_X5_ofCar : GoodIn wsX5_canBeGiven wsX5_ofCar := goodIn_r _ [5, 6, 18, 19, 20, 21, 22] (by decide +kernel) (by decide +kernel)
set_option maxRecDepth 20000 in
theorem gX5_canBeGiven_X5_ofCar : GoodIn wsX5_canBeGiven (wsV RX5 38 RX5 yX5_ofCar wsX5_ofCar) := goodIn_app (goodIn_of _ (by decide +kernel)) ggX5_canBeGiven_X5_ofCar
set_option maxRecDepth 20000 in
theorem ggX5_canBeGiven_X5_isAwake : GoodIn wsX5_canBeGiven wsX5_isAwake := goodIn_r _ [10, 6, 11, 12, 13, 4, 14, 18, 19, 20, 21, 22] (by decide +kernel) (by decide +kernel)
set_option maxRecDepth 20000 in
theorem gX5_canBeGiven_X5_isAwake : GoodIn wsX5_canBeGiven (wsV RX5 41 RX5 yX5_isAwake wsX5_isAwake) := goodIn_app (goodIn_of _ (by decide +kernel)) ggX5_canBeGiven_X5_isAwake
set_option maxRecDepth 20000 in
theorem ggX5_canBeGiven_X5_in : GoodIn wsX5_canBeGiven wsX5_in := goodIn_r _ [17] (by decide +kernel) (by decide +kernel)
set_option maxRecDepth 20000 in
theorem gX5_canBeGiven_X5_in : GoodIn wsX5_canBeGiven (va_wsS RX5 26 yX5_in wsX5_in) := goodIn_app (goodIn_of _ (by decide +kernel)) ggX5_canBeGiven_X5_in
theorem dX5_canBeGiven_0 : decode cX5_canBeGiven 0 = .ok (.aload_n 0, 1) := by decide +kernel
theorem dX5_canBeGiven_1 : decode cX5_canBeGiven 1 = .ok (.iload_n 1, 1) := by decide +kernel
theorem dX5_canBeGiven_2 : decode cX5_canBeGiven 2 = .ok (.iconst 4, 1) := by decide +kernel
theorem dX5_canBeGiven_3 : decode cX5_canBeGiven 3 = .ok (.invokevirtual 38, 3) := by decide +kernel
theorem dX5_canBeGiven_6 : decode cX5_canBeGiven 6 = .ok (.ifCond .ne 15, 3) := by decide +kernel
theorem dX5_canBeGiven_9 : decode cX5_canBeGiven 9 = .ok (.aload_n 0, 1) := by decide +kernel
theorem dX5_canBeGiven_10 : decode cX5_canBeGiven 10 = .ok (.iload_n 1, 1) := by decide +kernel
theorem dX5_canBeGiven_11 : decode cX5_canBeGiven 11 = .ok (.invokevirtual 41, 3) := by decide +kernel
theorem dX5_canBeGiven_14 : decode cX5_canBeGiven 14 = .ok (.ifCond .eq 7, 3) := by decide +kernel
theorem dX5_canBeGiven_17 : decode cX5_canBeGiven 17 = .ok (.iconst 1, 1) := by decide +kernel
theorem dX5_canBeGiven_18 : decode cX5_canBeGiven 18 = .ok (.goto 4, 3) := by decide +kernel
theorem dX5_canBeGiven_21 : decode cX5_canBeGiven 21 = .ok (.iconst 0, 1) := by decide +kernel
theorem dX5_canBeGiven_22 : decode cX5_canBeGiven 22 = .ok (.istore 4, 2) := by decide +kernel
theorem dX5_canBeGiven_24 : decode cX5_canBeGiven 24 = .ok (.iload 4, 2) := by decide +kernel
theorem dX5_canBeGiven_26 : decode cX5_canBeGiven 26 = .ok (.ifCond .eq 45, 3) := by decide +kernel
theorem dX5_canBeGiven_29 : decode cX5_canBeGiven 29 = .ok (.iload_n 2, 1) := by decide +kernel
theorem dX5_canBeGiven_30 : decode cX5_canBeGiven 30 = .ok (.aload_n 0, 1) := by decide +kernel
theorem dX5_canBeGiven_31 : decode cX5_canBeGiven 31 = .ok (.iload_n 1, 1) := by decide +kernel
theorem dX5_canBeGiven_32 : decode cX5_canBeGiven 32 = .ok (.iconst 0, 1) := by decide +kernel
theorem dX5_canBeGiven_33 : decode cX5_canBeGiven 33 = .ok (.invokevirtual 38, 3) := by decide +kernel
theorem dX5_canBeGiven_36 : decode cX5_canBeGiven 36 = .ok (.aload_n 0, 1) := by decide +kernel
theorem dX5_canBeGiven_37 : decode cX5_canBeGiven 37 = .ok (.iload_n 1, 1) := by decide +kernel
theorem dX5_canBeGiven_38 : decode cX5_canBeGiven 38 = .ok (.iconst 1, 1) := by decide +kernel
theorem dX5_canBeGiven_39 : decode cX5_canBeGiven 39 = .ok (.invokevirtual 38, 3) := by decide +kernel
theorem dX5_canBeGiven_42 : decode cX5_canBeGiven 42 = .ok (.invokestatic 26, 3) := by decide +kernel
theorem dX5_canBeGiven_45 : decode cX5_canBeGiven 45 = .ok (.ifCond .eq 26, 3) := by decide +kernel
theorem dX5_canBeGiven_48 : decode cX5_canBeGiven 48 = .ok (.iload_n 3, 1) := by decide +kernel
theorem dX5_canBeGiven_49 : decode cX5_canBeGiven 49 = .ok (.aload_n 0, 1) := by decide +kernel
theorem dX5_canBeGiven_50 : decode cX5_canBeGiven 50 = .ok (.iload_n 1, 1) := by decide +kernel
theorem dX5_canBeGiven_51 : decode cX5_canBeGiven 51 = .ok (.iconst 0, 1) := by decide +kernel
theorem dX5_canBeGiven_52 : decode cX5_canBeGiven 52 = .ok (.invokevirtual 38, 3) := by decide +kernel
theorem dX5_canBeGiven_55 : decode cX5_canBeGiven 55 = .ok (.aload_n 0, 1) := by decide +kernel
theorem dX5_canBeGiven_56 : decode cX5_canBeGiven 56 = .ok (.iload_n 1, 1) := by decide +kernel
theorem dX5_canBeGiven_57 : decode cX5_canBeGiven 57 = .ok (.iconst 1, 1) := by decide +kernel
theorem dX5_canBeGiven_58 : decode cX5_canBeGiven 58 = .ok (.invokevirtual 38, 3) := by decide +kernel
theorem dX5_canBeGiven_61 : decode cX5_canBeGiven 61 = .ok (.invokestatic 26, 3) := by decide +kernel
theorem dX5_canBeGiven_64 : decode cX5_canBeGiven 64 = .ok (.ifCond .eq 7, 3) := by decide +kernel
theorem dX5_canBeGiven_67 : decode cX5_canBeGiven 67 = .ok (.iconst 1, 1) := by decide +kernel
theorem dX5_canBeGiven_68 : decode cX5_canBeGiven 68 = .ok (.goto 4, 3) := by decide +kernel
theorem dX5_canBeGiven_71 : decode cX5_canBeGiven 71 = .ok (.iconst 0, 1) := by decide +kernel
theorem dX5_canBeGiven_72 : decode cX5_canBeGiven 72 = .ok (.ireturn, 1) := by decide +kernel
set_option maxRecDepth 20000 in
theorem ggX5_costOf_X5_stops : GoodIn wsX5_costOf wsX5_stops := goodIn_r _ [5, 6, 7, 8, 9, 4, 10, 11, 12, 13, 28, 29, 30, 31, 32] (by decide +kernel) (by decide +kernel)
set_option maxRecDepth 20000 in
theorem gX5_costOf_X5_stops : GoodIn wsX5_costOf (wsV RX5 45 RX5 yX5_stops wsX5_stops) := goodIn_app (goodIn_of _ (by decide +kernel)) ggX5_costOf_X5_stops
set_option maxRecDepth 20000 in
theorem ggX5_costOf_X5_ones : GoodIn wsX5_costOf wsX5_ones := goodIn_r _ [16] (by decide +kernel) (by decide +kernel)
set_option maxRecDepth 20000 in
theorem gX5_costOf_X5_ones : GoodIn wsX5_costOf (va_wsS RX5 49 yX5_ones wsX5_ones) := goodIn_app (goodIn_of _ (by decide +kernel)) ggX5_costOf_X5_ones
set_option maxRecDepth 20000 in
theorem ggX5_costOf_X5_ofCar : GoodIn wsX5_costOf wsX5_ofCar := goodIn_r _ [20, 6, 28, 29, 30, 31, 32] (by decide +kernel) (by decide +kernel)
set_option maxRecDepth 20000 in
theorem gX5_costOf_X5_ofCar : GoodIn wsX5_costOf (wsV RX5 38 RX5 yX5_ofCar wsX5_ofCar) := goodIn_app (goodIn_of _ (by decide +kernel)) ggX5_costOf_X5_ofCar
set_option maxRecDepth 20000 in
theorem ggX5_costOf_X5_far : GoodIn wsX5_costOf wsX5_far := goodIn_r _ [23] (by decide +kernel) (by decide +kernel)
set_option maxRecDepth 20000 in
theorem gX5_costOf_X5_far : GoodIn wsX5_costOf (va_wsS RX5 52 yX5_far wsX5_far) := goodIn_app (goodIn_of _ (by decide +kernel)) ggX5_costOf_X5_far
set_option maxRecDepth 20000 in
theorem ggX5_costOf_X5_many : GoodIn wsX5_costOf wsX5_many := goodIn_r _ [27, 6, 7, 8, 9, 4, 10, 28, 29, 30, 31, 32] (by decide +kernel) (by decide +kernel)
set_option maxRecDepth 20000 in
theorem gX5_costOf_X5_many : GoodIn wsX5_costOf (wsV RX5 55 RX5 yX5_many wsX5_many) := goodIn_app (goodIn_of _ (by decide +kernel)) ggX5_costOf_X5_many
theorem dX5_costOf_0 : decode cX5_costOf 0 = .ok (.aload_n 0, 1) := by decide +kernel
theorem dX5_costOf_1 : decode cX5_costOf 1 = .ok (.iload_n 1, 1) := by decide +kernel
theorem dX5_costOf_2 : decode cX5_costOf 2 = .ok (.invokevirtual 45, 3) := by decide +kernel
theorem dX5_costOf_5 : decode cX5_costOf 5 = .ok (.iconst 1, 1) := by decide +kernel
theorem dX5_costOf_6 : decode cX5_costOf 6 = .ok (.iload_n 2, 1) := by decide +kernel
theorem dX5_costOf_7 : decode cX5_costOf 7 = .ok (.ishl, 1) := by decide +kernel
theorem dX5_costOf_8 : decode cX5_costOf 8 = .ok (.ior, 1) := by decide +kernel
theorem dX5_costOf_9 : decode cX5_costOf 9 = .ok (.iconst 1, 1) := by decide +kernel
theorem dX5_costOf_10 : decode cX5_costOf 10 = .ok (.iload_n 3, 1) := by decide +kernel
theorem dX5_costOf_11 : decode cX5_costOf 11 = .ok (.ishl, 1) := by decide +kernel
theorem dX5_costOf_12 : decode cX5_costOf 12 = .ok (.ior, 1) := by decide +kernel
theorem dX5_costOf_13 : decode cX5_costOf 13 = .ok (.invokestatic 49, 3) := by decide +kernel
theorem dX5_costOf_16 : decode cX5_costOf 16 = .ok (.istore 4, 2) := by decide +kernel
theorem dX5_costOf_18 : decode cX5_costOf 18 = .ok (.aload_n 0, 1) := by decide +kernel
theorem dX5_costOf_19 : decode cX5_costOf 19 = .ok (.iload_n 1, 1) := by decide +kernel
theorem dX5_costOf_20 : decode cX5_costOf 20 = .ok (.iconst 3, 1) := by decide +kernel
theorem dX5_costOf_21 : decode cX5_costOf 21 = .ok (.invokevirtual 38, 3) := by decide +kernel
theorem dX5_costOf_24 : decode cX5_costOf 24 = .ok (.iload_n 2, 1) := by decide +kernel
theorem dX5_costOf_25 : decode cX5_costOf 25 = .ok (.invokestatic 52, 3) := by decide +kernel
theorem dX5_costOf_28 : decode cX5_costOf 28 = .ok (.iconst 2, 1) := by decide +kernel
theorem dX5_costOf_29 : decode cX5_costOf 29 = .ok (.iload 4, 2) := by decide +kernel
theorem dX5_costOf_31 : decode cX5_costOf 31 = .ok (.imul, 1) := by decide +kernel
theorem dX5_costOf_32 : decode cX5_costOf 32 = .ok (.iadd, 1) := by decide +kernel
theorem dX5_costOf_33 : decode cX5_costOf 33 = .ok (.aload_n 0, 1) := by decide +kernel
theorem dX5_costOf_34 : decode cX5_costOf 34 = .ok (.iload_n 1, 1) := by decide +kernel
theorem dX5_costOf_35 : decode cX5_costOf 35 = .ok (.iconst 1, 1) := by decide +kernel
theorem dX5_costOf_36 : decode cX5_costOf 36 = .ok (.invokevirtual 55, 3) := by decide +kernel
theorem dX5_costOf_39 : decode cX5_costOf 39 = .ok (.iadd, 1) := by decide +kernel
theorem dX5_costOf_40 : decode cX5_costOf 40 = .ok (.aload_n 0, 1) := by decide +kernel
theorem dX5_costOf_41 : decode cX5_costOf 41 = .ok (.iload_n 1, 1) := by decide +kernel
theorem dX5_costOf_42 : decode cX5_costOf 42 = .ok (.iconst 2, 1) := by decide +kernel
theorem dX5_costOf_43 : decode cX5_costOf 43 = .ok (.invokevirtual 55, 3) := by decide +kernel
theorem dX5_costOf_46 : decode cX5_costOf 46 = .ok (.iadd, 1) := by decide +kernel
theorem dX5_costOf_47 : decode cX5_costOf 47 = .ok (.ireturn, 1) := by decide +kernel
set_option maxRecDepth 20000 in
theorem ggX5_best_X5_canBeGiven : GoodIn wsX5_best wsX5_canBeGiven := goodIn_r _ [6, 7, 8, 9, 5, 10, 1, 11, 12, 13, 14, 15, 16, 17, 18, 19, 20, 21, 44, 45, 46, 47, 48] (by decide +kernel) (by decide +kernel)
set_option maxRecDepth 20000 in
theorem gX5_best_X5_canBeGiven : GoodIn wsX5_best (wsV RX5 58 RX5 yX5_canBeGiven wsX5_canBeGiven) := goodIn_app (goodIn_of _ (by decide +kernel)) ggX5_best_X5_canBeGiven
set_option maxRecDepth 20000 in
theorem ggX5_best_X5_costOf : GoodIn wsX5_best wsX5_costOf := goodIn_r _ [25, 26, 27, 28, 5, 29, 1, 30, 31, 32, 33, 19, 20, 21, 34, 35, 36, 7, 8, 9, 10, 37, 38, 39, 40, 41, 42, 43, 44, 45, 46, 47, 48] (by decide +kernel) (by decide +kernel)
set_option maxRecDepth 20000 in
theorem gX5_best_X5_costOf : GoodIn wsX5_best (wsV RX5 61 RX5 yX5_costOf wsX5_costOf) := goodIn_app (goodIn_of _ (by decide +kernel)) ggX5_best_X5_costOf
theorem dX5_best_0 : decode cX5_best 0 = .ok (.bipush (-9), 2) := by decide +kernel
theorem dX5_best_2 : decode cX5_best 2 = .ok (.istore_n 3, 1) := by decide +kernel
theorem dX5_best_3 : decode cX5_best 3 = .ok (.iconst 0, 1) := by decide +kernel
theorem dX5_best_4 : decode cX5_best 4 = .ok (.istore 4, 2) := by decide +kernel
theorem dX5_best_6 : decode cX5_best 6 = .ok (.iconst 0, 1) := by decide +kernel
theorem dX5_best_7 : decode cX5_best 7 = .ok (.istore 5, 2) := by decide +kernel
theorem dX5_best_9 : decode cX5_best 9 = .ok (.iload 5, 2) := by decide +kernel
theorem dX5_best_11 : decode cX5_best 11 = .ok (.aload_n 0, 1) := by decide +kernel
theorem dX5_best_12 : decode cX5_best 12 = .ok (.getfield 7, 3) := by decide +kernel
theorem dX5_best_15 : decode cX5_best 15 = .ok (.iconst 1, 1) := by decide +kernel
theorem dX5_best_16 : decode cX5_best 16 = .ok (.iaload, 1) := by decide +kernel
theorem dX5_best_17 : decode cX5_best 17 = .ok (.if_icmp .ge 76, 3) := by decide +kernel
theorem dX5_best_20 : decode cX5_best 20 = .ok (.aload_n 0, 1) := by decide +kernel
theorem dX5_best_21 : decode cX5_best 21 = .ok (.iload 5, 2) := by decide +kernel
theorem dX5_best_23 : decode cX5_best 23 = .ok (.iload_n 1, 1) := by decide +kernel
theorem dX5_best_24 : decode cX5_best 24 = .ok (.iload_n 2, 1) := by decide +kernel
theorem dX5_best_25 : decode cX5_best 25 = .ok (.invokevirtual 58, 3) := by decide +kernel
theorem dX5_best_28 : decode cX5_best 28 = .ok (.ifCond .eq 59, 3) := by decide +kernel
theorem dX5_best_31 : decode cX5_best 31 = .ok (.aload_n 0, 1) := by decide +kernel
theorem dX5_best_32 : decode cX5_best 32 = .ok (.iload 5, 2) := by decide +kernel
theorem dX5_best_34 : decode cX5_best 34 = .ok (.iload_n 1, 1) := by decide +kernel
theorem dX5_best_35 : decode cX5_best 35 = .ok (.iload_n 2, 1) := by decide +kernel
theorem dX5_best_36 : decode cX5_best 36 = .ok (.invokevirtual 61, 3) := by decide +kernel
theorem dX5_best_39 : decode cX5_best 39 = .ok (.istore 6, 2) := by decide +kernel
theorem dX5_best_41 : decode cX5_best 41 = .ok (.iload_n 3, 1) := by decide +kernel
theorem dX5_best_42 : decode cX5_best 42 = .ok (.bipush (-9), 2) := by decide +kernel
theorem dX5_best_44 : decode cX5_best 44 = .ok (.if_icmp .eq 10, 3) := by decide +kernel
theorem dX5_best_47 : decode cX5_best 47 = .ok (.iload 6, 2) := by decide +kernel
theorem dX5_best_49 : decode cX5_best 49 = .ok (.iload 4, 2) := by decide +kernel
theorem dX5_best_51 : decode cX5_best 51 = .ok (.if_icmp .ge 7, 3) := by decide +kernel
theorem dX5_best_54 : decode cX5_best 54 = .ok (.iconst 1, 1) := by decide +kernel
theorem dX5_best_55 : decode cX5_best 55 = .ok (.goto 4, 3) := by decide +kernel
theorem dX5_best_58 : decode cX5_best 58 = .ok (.iconst 0, 1) := by decide +kernel
theorem dX5_best_59 : decode cX5_best 59 = .ok (.istore 7, 2) := by decide +kernel
theorem dX5_best_61 : decode cX5_best 61 = .ok (.iload 7, 2) := by decide +kernel
theorem dX5_best_63 : decode cX5_best 63 = .ok (.ifCond .eq 8, 3) := by decide +kernel
theorem dX5_best_66 : decode cX5_best 66 = .ok (.iload 5, 2) := by decide +kernel
theorem dX5_best_68 : decode cX5_best 68 = .ok (.goto 4, 3) := by decide +kernel
theorem dX5_best_71 : decode cX5_best 71 = .ok (.iload_n 3, 1) := by decide +kernel
theorem dX5_best_72 : decode cX5_best 72 = .ok (.istore_n 3, 1) := by decide +kernel
theorem dX5_best_73 : decode cX5_best 73 = .ok (.iload 7, 2) := by decide +kernel
theorem dX5_best_75 : decode cX5_best 75 = .ok (.ifCond .eq 8, 3) := by decide +kernel
theorem dX5_best_78 : decode cX5_best 78 = .ok (.iload 6, 2) := by decide +kernel
theorem dX5_best_80 : decode cX5_best 80 = .ok (.goto 5, 3) := by decide +kernel
theorem dX5_best_83 : decode cX5_best 83 = .ok (.iload 4, 2) := by decide +kernel
theorem dX5_best_85 : decode cX5_best 85 = .ok (.istore 4, 2) := by decide +kernel
theorem dX5_best_87 : decode cX5_best 87 = .ok (.iinc 5 1, 3) := by decide +kernel
theorem dX5_best_90 : decode cX5_best 90 = .ok (.goto (-81), 3) := by decide +kernel
theorem dX5_best_93 : decode cX5_best 93 = .ok (.iload_n 3, 1) := by decide +kernel
theorem dX5_best_94 : decode cX5_best 94 = .ok (.ireturn, 1) := by decide +kernel
set_option maxRecDepth 20000 in
theorem ggX5_gives_X5_ofCaller : GoodIn wsX5_gives wsX5_ofCaller := goodIn_r _ [5, 6, 52, 53, 54, 55, 56] (by decide +kernel) (by decide +kernel)
set_option maxRecDepth 20000 in
theorem gX5_gives_X5_ofCaller : GoodIn wsX5_gives (wsV RX5 34 RX5 yX5_ofCaller wsX5_ofCaller) := goodIn_app (goodIn_of _ (by decide +kernel)) ggX5_gives_X5_ofCaller
set_option maxRecDepth 20000 in
theorem ggX5_gives_X5_best : GoodIn wsX5_gives wsX5_best := goodIn_r _ [10, 6, 11, 12, 13, 4, 14, 15, 16, 17, 18, 19, 20, 21, 22, 23, 24, 25, 26, 27, 28, 29, 30, 31, 32, 33, 34, 35, 36, 37, 1, 2, 3, 5, 38, 39, 40, 41, 42, 43, 44, 45, 46, 47, 52, 53, 54, 55, 56] (by decide +kernel) (by decide +kernel)
set_option maxRecDepth 20000 in
theorem gX5_gives_X5_best : GoodIn wsX5_gives (wsV RX5 65 RX5 yX5_best wsX5_best) := goodIn_app (goodIn_of _ (by decide +kernel)) ggX5_gives_X5_best
set_option maxRecDepth 20000 in
theorem ggX5_gives_X5_puts : GoodIn wsX5_gives wsX5_puts := goodIn_r _ [51, 6, 52, 53, 54, 55, 56] (by decide +kernel) (by decide +kernel)
set_option maxRecDepth 20000 in
theorem gX5_gives_X5_puts : GoodIn wsX5_gives (wsV RX5 68 RX5 yX5_puts wsX5_puts) := goodIn_app (goodIn_of _ (by decide +kernel)) ggX5_gives_X5_puts
theorem dX5_gives_0 : decode cX5_gives 0 = .ok (.aload_n 0, 1) := by decide +kernel
theorem dX5_gives_1 : decode cX5_gives 1 = .ok (.aload_n 0, 1) := by decide +kernel
theorem dX5_gives_2 : decode cX5_gives 2 = .ok (.iload_n 1, 1) := by decide +kernel
theorem dX5_gives_3 : decode cX5_gives 3 = .ok (.iconst 0, 1) := by decide +kernel
theorem dX5_gives_4 : decode cX5_gives 4 = .ok (.invokevirtual 34, 3) := by decide +kernel
theorem dX5_gives_7 : decode cX5_gives 7 = .ok (.aload_n 0, 1) := by decide +kernel
theorem dX5_gives_8 : decode cX5_gives 8 = .ok (.iload_n 1, 1) := by decide +kernel
theorem dX5_gives_9 : decode cX5_gives 9 = .ok (.iconst 1, 1) := by decide +kernel
theorem dX5_gives_10 : decode cX5_gives 10 = .ok (.invokevirtual 34, 3) := by decide +kernel
theorem dX5_gives_13 : decode cX5_gives 13 = .ok (.invokevirtual 65, 3) := by decide +kernel
theorem dX5_gives_16 : decode cX5_gives 16 = .ok (.istore_n 2, 1) := by decide +kernel
theorem dX5_gives_17 : decode cX5_gives 17 = .ok (.iload_n 2, 1) := by decide +kernel
theorem dX5_gives_18 : decode cX5_gives 18 = .ok (.bipush (-9), 2) := by decide +kernel
theorem dX5_gives_20 : decode cX5_gives 20 = .ok (.if_icmp .eq 33, 3) := by decide +kernel
theorem dX5_gives_23 : decode cX5_gives 23 = .ok (.aload_n 0, 1) := by decide +kernel
theorem dX5_gives_24 : decode cX5_gives 24 = .ok (.iload_n 1, 1) := by decide +kernel
theorem dX5_gives_25 : decode cX5_gives 25 = .ok (.iconst 2, 1) := by decide +kernel
theorem dX5_gives_26 : decode cX5_gives 26 = .ok (.iconst 1, 1) := by decide +kernel
theorem dX5_gives_27 : decode cX5_gives 27 = .ok (.invokevirtual 68, 3) := by decide +kernel
theorem dX5_gives_30 : decode cX5_gives 30 = .ok (.aload_n 0, 1) := by decide +kernel
theorem dX5_gives_31 : decode cX5_gives 31 = .ok (.iload_n 1, 1) := by decide +kernel
theorem dX5_gives_32 : decode cX5_gives 32 = .ok (.iconst 3, 1) := by decide +kernel
theorem dX5_gives_33 : decode cX5_gives 33 = .ok (.iload_n 2, 1) := by decide +kernel
theorem dX5_gives_34 : decode cX5_gives 34 = .ok (.invokevirtual 68, 3) := by decide +kernel
theorem dX5_gives_37 : decode cX5_gives 37 = .ok (.aload_n 0, 1) := by decide +kernel
theorem dX5_gives_38 : decode cX5_gives 38 = .ok (.iload_n 1, 1) := by decide +kernel
theorem dX5_gives_39 : decode cX5_gives 39 = .ok (.bipush 7, 2) := by decide +kernel
theorem dX5_gives_41 : decode cX5_gives 41 = .ok (.aload_n 0, 1) := by decide +kernel
theorem dX5_gives_42 : decode cX5_gives 42 = .ok (.iload_n 1, 1) := by decide +kernel
theorem dX5_gives_43 : decode cX5_gives 43 = .ok (.bipush 7, 2) := by decide +kernel
theorem dX5_gives_45 : decode cX5_gives 45 = .ok (.invokevirtual 34, 3) := by decide +kernel
theorem dX5_gives_48 : decode cX5_gives 48 = .ok (.iconst 1, 1) := by decide +kernel
theorem dX5_gives_49 : decode cX5_gives 49 = .ok (.iadd, 1) := by decide +kernel
theorem dX5_gives_50 : decode cX5_gives 50 = .ok (.invokevirtual 68, 3) := by decide +kernel
theorem dX5_gives_53 : decode cX5_gives 53 = .ok (.return_, 1) := by decide +kernel
set_option maxRecDepth 20000 in
theorem ggX5_aim_X5_ofCar : GoodIn wsX5_aim wsX5_ofCar := goodIn_r _ [6, 1, 14, 15, 16, 17, 18] (by decide +kernel) (by decide +kernel)
set_option maxRecDepth 20000 in
theorem gX5_aim_X5_ofCar : GoodIn wsX5_aim (wsV RX5 38 RX5 yX5_ofCar wsX5_ofCar) := goodIn_app (goodIn_of _ (by decide +kernel)) ggX5_aim_X5_ofCar
set_option maxRecDepth 20000 in
theorem ggX5_aim_X5_ofCaller : GoodIn wsX5_aim wsX5_ofCaller := goodIn_r _ [10, 1, 14, 15, 16, 17, 18] (by decide +kernel) (by decide +kernel)
set_option maxRecDepth 20000 in
theorem gX5_aim_X5_ofCaller : GoodIn wsX5_aim (wsV RX5 34 RX5 yX5_ofCaller wsX5_ofCaller) := goodIn_app (goodIn_of _ (by decide +kernel)) ggX5_aim_X5_ofCaller
set_option maxRecDepth 20000 in
theorem ggX5_aim_X5_far : GoodIn wsX5_aim wsX5_far := goodIn_r _ [13] (by decide +kernel) (by decide +kernel)
set_option maxRecDepth 20000 in
theorem gX5_aim_X5_far : GoodIn wsX5_aim (va_wsS RX5 52 yX5_far wsX5_far) := goodIn_app (goodIn_of _ (by decide +kernel)) ggX5_aim_X5_far
theorem dX5_aim_0 : decode cX5_aim 0 = .ok (.aload_n 0, 1) := by decide +kernel
theorem dX5_aim_1 : decode cX5_aim 1 = .ok (.iload_n 1, 1) := by decide +kernel
theorem dX5_aim_2 : decode cX5_aim 2 = .ok (.iconst 3, 1) := by decide +kernel
theorem dX5_aim_3 : decode cX5_aim 3 = .ok (.invokevirtual 38, 3) := by decide +kernel
theorem dX5_aim_6 : decode cX5_aim 6 = .ok (.istore_n 2, 1) := by decide +kernel
theorem dX5_aim_7 : decode cX5_aim 7 = .ok (.bipush (-9), 2) := by decide +kernel
theorem dX5_aim_9 : decode cX5_aim 9 = .ok (.istore_n 3, 1) := by decide +kernel
theorem dX5_aim_10 : decode cX5_aim 10 = .ok (.bipush (-9), 2) := by decide +kernel
theorem dX5_aim_12 : decode cX5_aim 12 = .ok (.istore 4, 2) := by decide +kernel
theorem dX5_aim_14 : decode cX5_aim 14 = .ok (.iconst 0, 1) := by decide +kernel
theorem dX5_aim_15 : decode cX5_aim 15 = .ok (.istore 5, 2) := by decide +kernel
theorem dX5_aim_17 : decode cX5_aim 17 = .ok (.iload 5, 2) := by decide +kernel
theorem dX5_aim_19 : decode cX5_aim 19 = .ok (.aload_n 0, 1) := by decide +kernel
theorem dX5_aim_20 : decode cX5_aim 20 = .ok (.getfield 7, 3) := by decide +kernel
theorem dX5_aim_23 : decode cX5_aim 23 = .ok (.iconst 2, 1) := by decide +kernel
theorem dX5_aim_24 : decode cX5_aim 24 = .ok (.iaload, 1) := by decide +kernel
theorem dX5_aim_25 : decode cX5_aim 25 = .ok (.if_icmp .ge 130, 3) := by decide +kernel
theorem dX5_aim_28 : decode cX5_aim 28 = .ok (.aload_n 0, 1) := by decide +kernel
theorem dX5_aim_29 : decode cX5_aim 29 = .ok (.iload 5, 2) := by decide +kernel
theorem dX5_aim_31 : decode cX5_aim 31 = .ok (.iconst 3, 1) := by decide +kernel
theorem dX5_aim_32 : decode cX5_aim 32 = .ok (.invokevirtual 34, 3) := by decide +kernel
theorem dX5_aim_35 : decode cX5_aim 35 = .ok (.iload_n 1, 1) := by decide +kernel
theorem dX5_aim_36 : decode cX5_aim 36 = .ok (.if_icmp .ne 70, 3) := by decide +kernel
theorem dX5_aim_39 : decode cX5_aim 39 = .ok (.aload_n 0, 1) := by decide +kernel
theorem dX5_aim_40 : decode cX5_aim 40 = .ok (.iload 5, 2) := by decide +kernel
theorem dX5_aim_42 : decode cX5_aim 42 = .ok (.iconst 2, 1) := by decide +kernel
theorem dX5_aim_43 : decode cX5_aim 43 = .ok (.invokevirtual 34, 3) := by decide +kernel
theorem dX5_aim_46 : decode cX5_aim 46 = .ok (.iconst 2, 1) := by decide +kernel
theorem dX5_aim_47 : decode cX5_aim 47 = .ok (.if_icmp .ne 59, 3) := by decide +kernel
theorem dX5_aim_50 : decode cX5_aim 50 = .ok (.aload_n 0, 1) := by decide +kernel
theorem dX5_aim_51 : decode cX5_aim 51 = .ok (.iload 5, 2) := by decide +kernel
theorem dX5_aim_53 : decode cX5_aim 53 = .ok (.iconst 1, 1) := by decide +kernel
theorem dX5_aim_54 : decode cX5_aim 54 = .ok (.invokevirtual 34, 3) := by decide +kernel
theorem dX5_aim_57 : decode cX5_aim 57 = .ok (.istore 6, 2) := by decide +kernel
theorem dX5_aim_59 : decode cX5_aim 59 = .ok (.iload_n 3, 1) := by decide +kernel
theorem dX5_aim_60 : decode cX5_aim 60 = .ok (.bipush (-9), 2) := by decide +kernel
theorem dX5_aim_62 : decode cX5_aim 62 = .ok (.if_icmp .ne 7, 3) := by decide +kernel
theorem dX5_aim_65 : decode cX5_aim 65 = .ok (.iconst (-1), 1) := by decide +kernel
theorem dX5_aim_66 : decode cX5_aim 66 = .ok (.goto 15, 3) := by decide +kernel
theorem dX5_aim_69 : decode cX5_aim 69 = .ok (.iload 6, 2) := by decide +kernel
theorem dX5_aim_71 : decode cX5_aim 71 = .ok (.iload_n 2, 1) := by decide +kernel
theorem dX5_aim_72 : decode cX5_aim 72 = .ok (.invokestatic 52, 3) := by decide +kernel
theorem dX5_aim_75 : decode cX5_aim 75 = .ok (.iload_n 3, 1) := by decide +kernel
theorem dX5_aim_76 : decode cX5_aim 76 = .ok (.iload_n 2, 1) := by decide +kernel
theorem dX5_aim_77 : decode cX5_aim 77 = .ok (.invokestatic 52, 3) := by decide +kernel
theorem dX5_aim_80 : decode cX5_aim 80 = .ok (.isub, 1) := by decide +kernel
theorem dX5_aim_81 : decode cX5_aim 81 = .ok (.istore 7, 2) := by decide +kernel
theorem dX5_aim_83 : decode cX5_aim 83 = .ok (.iload 7, 2) := by decide +kernel
theorem dX5_aim_85 : decode cX5_aim 85 = .ok (.ifCond .lt 14, 3) := by decide +kernel
theorem dX5_aim_88 : decode cX5_aim 88 = .ok (.iload 7, 2) := by decide +kernel
theorem dX5_aim_90 : decode cX5_aim 90 = .ok (.ifCond .ne 14, 3) := by decide +kernel
theorem dX5_aim_93 : decode cX5_aim 93 = .ok (.iload 6, 2) := by decide +kernel
theorem dX5_aim_95 : decode cX5_aim 95 = .ok (.iload_n 3, 1) := by decide +kernel
theorem dX5_aim_96 : decode cX5_aim 96 = .ok (.if_icmp .ge 8, 3) := by decide +kernel
theorem dX5_aim_99 : decode cX5_aim 99 = .ok (.iload 6, 2) := by decide +kernel
theorem dX5_aim_101 : decode cX5_aim 101 = .ok (.goto 4, 3) := by decide +kernel
theorem dX5_aim_104 : decode cX5_aim 104 = .ok (.iload_n 3, 1) := by decide +kernel
theorem dX5_aim_105 : decode cX5_aim 105 = .ok (.istore_n 3, 1) := by decide +kernel
theorem dX5_aim_106 : decode cX5_aim 106 = .ok (.iload 4, 2) := by decide +kernel
theorem dX5_aim_108 : decode cX5_aim 108 = .ok (.bipush (-9), 2) := by decide +kernel
theorem dX5_aim_110 : decode cX5_aim 110 = .ok (.if_icmp .ne 35, 3) := by decide +kernel
theorem dX5_aim_113 : decode cX5_aim 113 = .ok (.aload_n 0, 1) := by decide +kernel
theorem dX5_aim_114 : decode cX5_aim 114 = .ok (.iload 5, 2) := by decide +kernel
theorem dX5_aim_116 : decode cX5_aim 116 = .ok (.iconst 3, 1) := by decide +kernel
theorem dX5_aim_117 : decode cX5_aim 117 = .ok (.invokevirtual 34, 3) := by decide +kernel
theorem dX5_aim_120 : decode cX5_aim 120 = .ok (.iload_n 1, 1) := by decide +kernel
theorem dX5_aim_121 : decode cX5_aim 121 = .ok (.if_icmp .ne 24, 3) := by decide +kernel
theorem dX5_aim_124 : decode cX5_aim 124 = .ok (.aload_n 0, 1) := by decide +kernel
theorem dX5_aim_125 : decode cX5_aim 125 = .ok (.iload 5, 2) := by decide +kernel
theorem dX5_aim_127 : decode cX5_aim 127 = .ok (.iconst 2, 1) := by decide +kernel
theorem dX5_aim_128 : decode cX5_aim 128 = .ok (.invokevirtual 34, 3) := by decide +kernel
theorem dX5_aim_131 : decode cX5_aim 131 = .ok (.iconst 1, 1) := by decide +kernel
theorem dX5_aim_132 : decode cX5_aim 132 = .ok (.if_icmp .ne 13, 3) := by decide +kernel
theorem dX5_aim_135 : decode cX5_aim 135 = .ok (.aload_n 0, 1) := by decide +kernel
theorem dX5_aim_136 : decode cX5_aim 136 = .ok (.iload 5, 2) := by decide +kernel
theorem dX5_aim_138 : decode cX5_aim 138 = .ok (.iconst 0, 1) := by decide +kernel
theorem dX5_aim_139 : decode cX5_aim 139 = .ok (.invokevirtual 34, 3) := by decide +kernel
theorem dX5_aim_142 : decode cX5_aim 142 = .ok (.goto 5, 3) := by decide +kernel
theorem dX5_aim_145 : decode cX5_aim 145 = .ok (.iload 4, 2) := by decide +kernel
theorem dX5_aim_147 : decode cX5_aim 147 = .ok (.istore 4, 2) := by decide +kernel
theorem dX5_aim_149 : decode cX5_aim 149 = .ok (.iinc 5 1, 3) := by decide +kernel
theorem dX5_aim_152 : decode cX5_aim 152 = .ok (.goto (-135), 3) := by decide +kernel
theorem dX5_aim_155 : decode cX5_aim 155 = .ok (.iload_n 3, 1) := by decide +kernel
theorem dX5_aim_156 : decode cX5_aim 156 = .ok (.bipush (-9), 2) := by decide +kernel
theorem dX5_aim_158 : decode cX5_aim 158 = .ok (.if_icmp .ne 8, 3) := by decide +kernel
theorem dX5_aim_161 : decode cX5_aim 161 = .ok (.iload 4, 2) := by decide +kernel
theorem dX5_aim_163 : decode cX5_aim 163 = .ok (.goto 4, 3) := by decide +kernel
theorem dX5_aim_166 : decode cX5_aim 166 = .ok (.iload_n 3, 1) := by decide +kernel
theorem dX5_aim_167 : decode cX5_aim 167 = .ok (.ireturn, 1) := by decide +kernel
set_option maxRecDepth 20000 in
theorem ggX5_isOut_X5_ofCaller : GoodIn wsX5_isOut wsX5_ofCaller := goodIn_r _ [5, 6, 11, 12, 13, 14, 15] (by decide +kernel) (by decide +kernel)
set_option maxRecDepth 20000 in
theorem gX5_isOut_X5_ofCaller : GoodIn wsX5_isOut (wsV RX5 34 RX5 yX5_ofCaller wsX5_ofCaller) := goodIn_app (goodIn_of _ (by decide +kernel)) ggX5_isOut_X5_ofCaller
set_option maxRecDepth 20000 in
theorem ggX5_isOut_X5_ofCar : GoodIn wsX5_isOut wsX5_ofCar := goodIn_r _ [10, 6, 11, 12, 13, 14, 15] (by decide +kernel) (by decide +kernel)
set_option maxRecDepth 20000 in
theorem gX5_isOut_X5_ofCar : GoodIn wsX5_isOut (wsV RX5 38 RX5 yX5_ofCar wsX5_ofCar) := goodIn_app (goodIn_of _ (by decide +kernel)) ggX5_isOut_X5_ofCar
theorem dX5_isOut_0 : decode cX5_isOut 0 = .ok (.aload_n 0, 1) := by decide +kernel
theorem dX5_isOut_1 : decode cX5_isOut 1 = .ok (.iload_n 1, 1) := by decide +kernel
theorem dX5_isOut_2 : decode cX5_isOut 2 = .ok (.iconst 3, 1) := by decide +kernel
theorem dX5_isOut_3 : decode cX5_isOut 3 = .ok (.invokevirtual 34, 3) := by decide +kernel
theorem dX5_isOut_6 : decode cX5_isOut 6 = .ok (.iload_n 2, 1) := by decide +kernel
theorem dX5_isOut_7 : decode cX5_isOut 7 = .ok (.if_icmp .ne 32, 3) := by decide +kernel
theorem dX5_isOut_10 : decode cX5_isOut 10 = .ok (.aload_n 0, 1) := by decide +kernel
theorem dX5_isOut_11 : decode cX5_isOut 11 = .ok (.iload_n 1, 1) := by decide +kernel
theorem dX5_isOut_12 : decode cX5_isOut 12 = .ok (.iconst 2, 1) := by decide +kernel
theorem dX5_isOut_13 : decode cX5_isOut 13 = .ok (.invokevirtual 34, 3) := by decide +kernel
theorem dX5_isOut_16 : decode cX5_isOut 16 = .ok (.iconst 2, 1) := by decide +kernel
theorem dX5_isOut_17 : decode cX5_isOut 17 = .ok (.if_icmp .ne 22, 3) := by decide +kernel
theorem dX5_isOut_20 : decode cX5_isOut 20 = .ok (.aload_n 0, 1) := by decide +kernel
theorem dX5_isOut_21 : decode cX5_isOut 21 = .ok (.iload_n 1, 1) := by decide +kernel
theorem dX5_isOut_22 : decode cX5_isOut 22 = .ok (.iconst 1, 1) := by decide +kernel
theorem dX5_isOut_23 : decode cX5_isOut 23 = .ok (.invokevirtual 34, 3) := by decide +kernel
theorem dX5_isOut_26 : decode cX5_isOut 26 = .ok (.aload_n 0, 1) := by decide +kernel
theorem dX5_isOut_27 : decode cX5_isOut 27 = .ok (.iload_n 2, 1) := by decide +kernel
theorem dX5_isOut_28 : decode cX5_isOut 28 = .ok (.iconst 3, 1) := by decide +kernel
theorem dX5_isOut_29 : decode cX5_isOut 29 = .ok (.invokevirtual 38, 3) := by decide +kernel
theorem dX5_isOut_32 : decode cX5_isOut 32 = .ok (.if_icmp .ne 7, 3) := by decide +kernel
theorem dX5_isOut_35 : decode cX5_isOut 35 = .ok (.iconst 1, 1) := by decide +kernel
theorem dX5_isOut_36 : decode cX5_isOut 36 = .ok (.goto 4, 3) := by decide +kernel
theorem dX5_isOut_39 : decode cX5_isOut 39 = .ok (.iconst 0, 1) := by decide +kernel
theorem dX5_isOut_40 : decode cX5_isOut 40 = .ok (.ireturn, 1) := by decide +kernel
set_option maxRecDepth 20000 in
theorem ggX5_isTaken_X5_ofCaller : GoodIn wsX5_isTaken wsX5_ofCaller := goodIn_r _ [5, 6, 11, 12, 13, 14, 15] (by decide +kernel) (by decide +kernel)
set_option maxRecDepth 20000 in
theorem gX5_isTaken_X5_ofCaller : GoodIn wsX5_isTaken (wsV RX5 34 RX5 yX5_ofCaller wsX5_ofCaller) := goodIn_app (goodIn_of _ (by decide +kernel)) ggX5_isTaken_X5_ofCaller
set_option maxRecDepth 20000 in
theorem ggX5_isTaken_X5_ofCar : GoodIn wsX5_isTaken wsX5_ofCar := goodIn_r _ [10, 6, 11, 12, 13, 14, 15] (by decide +kernel) (by decide +kernel)
set_option maxRecDepth 20000 in
theorem gX5_isTaken_X5_ofCar : GoodIn wsX5_isTaken (wsV RX5 38 RX5 yX5_ofCar wsX5_ofCar) := goodIn_app (goodIn_of _ (by decide +kernel)) ggX5_isTaken_X5_ofCar
theorem dX5_isTaken_0 : decode cX5_isTaken 0 = .ok (.aload_n 0, 1) := by decide +kernel
theorem dX5_isTaken_1 : decode cX5_isTaken 1 = .ok (.iload_n 1, 1) := by decide +kernel
theorem dX5_isTaken_2 : decode cX5_isTaken 2 = .ok (.iconst 3, 1) := by decide +kernel
theorem dX5_isTaken_3 : decode cX5_isTaken 3 = .ok (.invokevirtual 34, 3) := by decide +kernel
theorem dX5_isTaken_6 : decode cX5_isTaken 6 = .ok (.iload_n 2, 1) := by decide +kernel
theorem dX5_isTaken_7 : decode cX5_isTaken 7 = .ok (.if_icmp .ne 32, 3) := by decide +kernel
theorem dX5_isTaken_10 : decode cX5_isTaken 10 = .ok (.aload_n 0, 1) := by decide +kernel
theorem dX5_isTaken_11 : decode cX5_isTaken 11 = .ok (.iload_n 1, 1) := by decide +kernel
theorem dX5_isTaken_12 : decode cX5_isTaken 12 = .ok (.iconst 2, 1) := by decide +kernel
theorem dX5_isTaken_13 : decode cX5_isTaken 13 = .ok (.invokevirtual 34, 3) := by decide +kernel
theorem dX5_isTaken_16 : decode cX5_isTaken 16 = .ok (.iconst 1, 1) := by decide +kernel
theorem dX5_isTaken_17 : decode cX5_isTaken 17 = .ok (.if_icmp .ne 22, 3) := by decide +kernel
theorem dX5_isTaken_20 : decode cX5_isTaken 20 = .ok (.aload_n 0, 1) := by decide +kernel
theorem dX5_isTaken_21 : decode cX5_isTaken 21 = .ok (.iload_n 1, 1) := by decide +kernel
theorem dX5_isTaken_22 : decode cX5_isTaken 22 = .ok (.iconst 0, 1) := by decide +kernel
theorem dX5_isTaken_23 : decode cX5_isTaken 23 = .ok (.invokevirtual 34, 3) := by decide +kernel
theorem dX5_isTaken_26 : decode cX5_isTaken 26 = .ok (.aload_n 0, 1) := by decide +kernel
theorem dX5_isTaken_27 : decode cX5_isTaken 27 = .ok (.iload_n 2, 1) := by decide +kernel
theorem dX5_isTaken_28 : decode cX5_isTaken 28 = .ok (.iconst 3, 1) := by decide +kernel
theorem dX5_isTaken_29 : decode cX5_isTaken 29 = .ok (.invokevirtual 38, 3) := by decide +kernel
theorem dX5_isTaken_32 : decode cX5_isTaken 32 = .ok (.if_icmp .ne 7, 3) := by decide +kernel
theorem dX5_isTaken_35 : decode cX5_isTaken 35 = .ok (.iconst 1, 1) := by decide +kernel
theorem dX5_isTaken_36 : decode cX5_isTaken 36 = .ok (.goto 4, 3) := by decide +kernel
theorem dX5_isTaken_39 : decode cX5_isTaken 39 = .ok (.iconst 0, 1) := by decide +kernel
theorem dX5_isTaken_40 : decode cX5_isTaken 40 = .ok (.ireturn, 1) := by decide +kernel
set_option maxRecDepth 20000 in
theorem ggX5_isStop_X5_isOut : GoodIn wsX5_isStop wsX5_isOut := goodIn_r _ [6, 7, 8, 9, 5, 10, 1, 11, 12, 13, 14, 23, 24, 25, 26, 27] (by decide +kernel) (by decide +kernel)
set_option maxRecDepth 20000 in
theorem gX5_isStop_X5_isOut : GoodIn wsX5_isStop (wsV RX5 72 RX5 yX5_isOut wsX5_isOut) := goodIn_app (goodIn_of _ (by decide +kernel)) ggX5_isStop_X5_isOut
set_option maxRecDepth 20000 in
theorem ggX5_isStop_X5_isTaken : GoodIn wsX5_isStop wsX5_isTaken := goodIn_r _ [18, 7, 8, 9, 5, 10, 1, 11, 12, 13, 14, 23, 24, 25, 26, 27] (by decide +kernel) (by decide +kernel)
set_option maxRecDepth 20000 in
theorem gX5_isStop_X5_isTaken : GoodIn wsX5_isStop (wsV RX5 76 RX5 yX5_isTaken wsX5_isTaken) := goodIn_app (goodIn_of _ (by decide +kernel)) ggX5_isStop_X5_isTaken
set_option maxRecDepth 20000 in
theorem ggX5_isStop_X5_many : GoodIn wsX5_isStop wsX5_many := goodIn_r _ [22, 1, 7, 8, 9, 5, 10, 23, 24, 25, 26, 27] (by decide +kernel) (by decide +kernel)
set_option maxRecDepth 20000 in
theorem gX5_isStop_X5_many : GoodIn wsX5_isStop (wsV RX5 55 RX5 yX5_many wsX5_many) := goodIn_app (goodIn_of _ (by decide +kernel)) ggX5_isStop_X5_many
set_option maxRecDepth 20000 in
theorem ggX5_isStop_X5_ofCar : GoodIn wsX5_isStop wsX5_ofCar := goodIn_r _ [14, 1, 23, 24, 25, 26, 27] (by decide +kernel) (by decide +kernel)
set_option maxRecDepth 20000 in
theorem gX5_isStop_X5_ofCar : GoodIn wsX5_isStop (wsV RX5 38 RX5 yX5_ofCar wsX5_ofCar) := goodIn_app (goodIn_of _ (by decide +kernel)) ggX5_isStop_X5_ofCar
theorem dX5_isStop_0 : decode cX5_isStop 0 = .ok (.iconst 0, 1) := by decide +kernel
theorem dX5_isStop_1 : decode cX5_isStop 1 = .ok (.istore_n 2, 1) := by decide +kernel
theorem dX5_isStop_2 : decode cX5_isStop 2 = .ok (.iconst 0, 1) := by decide +kernel
theorem dX5_isStop_3 : decode cX5_isStop 3 = .ok (.istore_n 3, 1) := by decide +kernel
theorem dX5_isStop_4 : decode cX5_isStop 4 = .ok (.iconst 0, 1) := by decide +kernel
theorem dX5_isStop_5 : decode cX5_isStop 5 = .ok (.istore 4, 2) := by decide +kernel
theorem dX5_isStop_7 : decode cX5_isStop 7 = .ok (.iload 4, 2) := by decide +kernel
theorem dX5_isStop_9 : decode cX5_isStop 9 = .ok (.aload_n 0, 1) := by decide +kernel
theorem dX5_isStop_10 : decode cX5_isStop 10 = .ok (.getfield 7, 3) := by decide +kernel
theorem dX5_isStop_13 : decode cX5_isStop 13 = .ok (.iconst 2, 1) := by decide +kernel
theorem dX5_isStop_14 : decode cX5_isStop 14 = .ok (.iaload, 1) := by decide +kernel
theorem dX5_isStop_15 : decode cX5_isStop 15 = .ok (.if_icmp .ge 49, 3) := by decide +kernel
theorem dX5_isStop_18 : decode cX5_isStop 18 = .ok (.iload_n 2, 1) := by decide +kernel
theorem dX5_isStop_19 : decode cX5_isStop 19 = .ok (.ifCond .ne 13, 3) := by decide +kernel
theorem dX5_isStop_22 : decode cX5_isStop 22 = .ok (.aload_n 0, 1) := by decide +kernel
theorem dX5_isStop_23 : decode cX5_isStop 23 = .ok (.iload 4, 2) := by decide +kernel
theorem dX5_isStop_25 : decode cX5_isStop 25 = .ok (.iload_n 1, 1) := by decide +kernel
theorem dX5_isStop_26 : decode cX5_isStop 26 = .ok (.invokevirtual 72, 3) := by decide +kernel
theorem dX5_isStop_29 : decode cX5_isStop 29 = .ok (.ifCond .eq 7, 3) := by decide +kernel
theorem dX5_isStop_32 : decode cX5_isStop 32 = .ok (.iconst 1, 1) := by decide +kernel
theorem dX5_isStop_33 : decode cX5_isStop 33 = .ok (.goto 4, 3) := by decide +kernel
theorem dX5_isStop_36 : decode cX5_isStop 36 = .ok (.iconst 0, 1) := by decide +kernel
theorem dX5_isStop_37 : decode cX5_isStop 37 = .ok (.istore_n 2, 1) := by decide +kernel
theorem dX5_isStop_38 : decode cX5_isStop 38 = .ok (.iload_n 3, 1) := by decide +kernel
theorem dX5_isStop_39 : decode cX5_isStop 39 = .ok (.ifCond .ne 13, 3) := by decide +kernel
theorem dX5_isStop_42 : decode cX5_isStop 42 = .ok (.aload_n 0, 1) := by decide +kernel
theorem dX5_isStop_43 : decode cX5_isStop 43 = .ok (.iload 4, 2) := by decide +kernel
theorem dX5_isStop_45 : decode cX5_isStop 45 = .ok (.iload_n 1, 1) := by decide +kernel
theorem dX5_isStop_46 : decode cX5_isStop 46 = .ok (.invokevirtual 76, 3) := by decide +kernel
theorem dX5_isStop_49 : decode cX5_isStop 49 = .ok (.ifCond .eq 7, 3) := by decide +kernel
theorem dX5_isStop_52 : decode cX5_isStop 52 = .ok (.iconst 1, 1) := by decide +kernel
theorem dX5_isStop_53 : decode cX5_isStop 53 = .ok (.goto 4, 3) := by decide +kernel
theorem dX5_isStop_56 : decode cX5_isStop 56 = .ok (.iconst 0, 1) := by decide +kernel
theorem dX5_isStop_57 : decode cX5_isStop 57 = .ok (.istore_n 3, 1) := by decide +kernel
theorem dX5_isStop_58 : decode cX5_isStop 58 = .ok (.iinc 4 1, 3) := by decide +kernel
theorem dX5_isStop_61 : decode cX5_isStop 61 = .ok (.goto (-54), 3) := by decide +kernel
theorem dX5_isStop_64 : decode cX5_isStop 64 = .ok (.iload_n 2, 1) := by decide +kernel
theorem dX5_isStop_65 : decode cX5_isStop 65 = .ok (.ifCond .ne 22, 3) := by decide +kernel
theorem dX5_isStop_68 : decode cX5_isStop 68 = .ok (.iload_n 3, 1) := by decide +kernel
theorem dX5_isStop_69 : decode cX5_isStop 69 = .ok (.ifCond .eq 22, 3) := by decide +kernel
theorem dX5_isStop_72 : decode cX5_isStop 72 = .ok (.aload_n 0, 1) := by decide +kernel
theorem dX5_isStop_73 : decode cX5_isStop 73 = .ok (.iload_n 1, 1) := by decide +kernel
theorem dX5_isStop_74 : decode cX5_isStop 74 = .ok (.iconst 2, 1) := by decide +kernel
theorem dX5_isStop_75 : decode cX5_isStop 75 = .ok (.invokevirtual 55, 3) := by decide +kernel
theorem dX5_isStop_78 : decode cX5_isStop 78 = .ok (.aload_n 0, 1) := by decide +kernel
theorem dX5_isStop_79 : decode cX5_isStop 79 = .ok (.iload_n 1, 1) := by decide +kernel
theorem dX5_isStop_80 : decode cX5_isStop 80 = .ok (.iconst 2, 1) := by decide +kernel
theorem dX5_isStop_81 : decode cX5_isStop 81 = .ok (.invokevirtual 38, 3) := by decide +kernel
theorem dX5_isStop_84 : decode cX5_isStop 84 = .ok (.if_icmp .ge 7, 3) := by decide +kernel
theorem dX5_isStop_87 : decode cX5_isStop 87 = .ok (.iconst 1, 1) := by decide +kernel
theorem dX5_isStop_88 : decode cX5_isStop 88 = .ok (.goto 4, 3) := by decide +kernel
theorem dX5_isStop_91 : decode cX5_isStop 91 = .ok (.iconst 0, 1) := by decide +kernel
theorem dX5_isStop_92 : decode cX5_isStop 92 = .ok (.ireturn, 1) := by decide +kernel
set_option maxRecDepth 20000 in
theorem ggX5_stopsNow_X5_isOut : GoodIn wsX5_stopsNow wsX5_isOut := goodIn_r _ [6, 7, 8, 9, 5, 10, 1, 11, 12, 13, 14, 27, 28, 29, 30, 31] (by decide +kernel) (by decide +kernel)
set_option maxRecDepth 20000 in
theorem gX5_stopsNow_X5_isOut : GoodIn wsX5_stopsNow (wsV RX5 72 RX5 yX5_isOut wsX5_isOut) := goodIn_app (goodIn_of _ (by decide +kernel)) ggX5_stopsNow_X5_isOut
set_option maxRecDepth 20000 in
theorem ggX5_stopsNow_X5_puts : GoodIn wsX5_stopsNow wsX5_puts := goodIn_r _ [18, 1, 27, 28, 29, 30, 31] (by decide +kernel) (by decide +kernel)
set_option maxRecDepth 20000 in
theorem gX5_stopsNow_X5_puts : GoodIn wsX5_stopsNow (wsV RX5 68 RX5 yX5_puts wsX5_puts) := goodIn_app (goodIn_of _ (by decide +kernel)) ggX5_stopsNow_X5_puts
set_option maxRecDepth 20000 in
theorem ggX5_stopsNow_X5_isTaken : GoodIn wsX5_stopsNow wsX5_isTaken := goodIn_r _ [22, 7, 8, 9, 5, 10, 1, 11, 12, 13, 14, 27, 28, 29, 30, 31] (by decide +kernel) (by decide +kernel)
set_option maxRecDepth 20000 in
theorem gX5_stopsNow_X5_isTaken : GoodIn wsX5_stopsNow (wsV RX5 76 RX5 yX5_isTaken wsX5_isTaken) := goodIn_app (goodIn_of _ (by decide +kernel)) ggX5_stopsNow_X5_isTaken
set_option maxRecDepth 20000 in
theorem ggX5_stopsNow_X5_many : GoodIn wsX5_stopsNow wsX5_many := goodIn_r _ [26, 1, 7, 8, 9, 5, 10, 27, 28, 29, 30, 31] (by decide +kernel) (by decide +kernel)
set_option maxRecDepth 20000 in
theorem gX5_stopsNow_X5_many : GoodIn wsX5_stopsNow (wsV RX5 55 RX5 yX5_many wsX5_many) := goodIn_app (goodIn_of _ (by decide +kernel)) ggX5_stopsNow_X5_many
set_option maxRecDepth 20000 in
theorem ggX5_stopsNow_X5_ofCar : GoodIn wsX5_stopsNow wsX5_ofCar := goodIn_r _ [14, 1, 27, 28, 29, 30, 31] (by decide +kernel) (by decide +kernel)
set_option maxRecDepth 20000 in
theorem gX5_stopsNow_X5_ofCar : GoodIn wsX5_stopsNow (wsV RX5 38 RX5 yX5_ofCar wsX5_ofCar) := goodIn_app (goodIn_of _ (by decide +kernel)) ggX5_stopsNow_X5_ofCar
theorem dX5_stopsNow_0 : decode cX5_stopsNow 0 = .ok (.iconst 0, 1) := by decide +kernel
theorem dX5_stopsNow_1 : decode cX5_stopsNow 1 = .ok (.istore_n 2, 1) := by decide +kernel
theorem dX5_stopsNow_2 : decode cX5_stopsNow 2 = .ok (.iload_n 2, 1) := by decide +kernel
theorem dX5_stopsNow_3 : decode cX5_stopsNow 3 = .ok (.aload_n 0, 1) := by decide +kernel
theorem dX5_stopsNow_4 : decode cX5_stopsNow 4 = .ok (.getfield 7, 3) := by decide +kernel
theorem dX5_stopsNow_7 : decode cX5_stopsNow 7 = .ok (.iconst 2, 1) := by decide +kernel
theorem dX5_stopsNow_8 : decode cX5_stopsNow 8 = .ok (.iaload, 1) := by decide +kernel
theorem dX5_stopsNow_9 : decode cX5_stopsNow 9 = .ok (.if_icmp .ge 38, 3) := by decide +kernel
theorem dX5_stopsNow_12 : decode cX5_stopsNow 12 = .ok (.aload_n 0, 1) := by decide +kernel
theorem dX5_stopsNow_13 : decode cX5_stopsNow 13 = .ok (.iload_n 2, 1) := by decide +kernel
theorem dX5_stopsNow_14 : decode cX5_stopsNow 14 = .ok (.iload_n 1, 1) := by decide +kernel
theorem dX5_stopsNow_15 : decode cX5_stopsNow 15 = .ok (.invokevirtual 72, 3) := by decide +kernel
theorem dX5_stopsNow_18 : decode cX5_stopsNow 18 = .ok (.ifCond .eq 23, 3) := by decide +kernel
theorem dX5_stopsNow_21 : decode cX5_stopsNow 21 = .ok (.aload_n 0, 1) := by decide +kernel
theorem dX5_stopsNow_22 : decode cX5_stopsNow 22 = .ok (.iload_n 2, 1) := by decide +kernel
theorem dX5_stopsNow_23 : decode cX5_stopsNow 23 = .ok (.iconst 2, 1) := by decide +kernel
theorem dX5_stopsNow_24 : decode cX5_stopsNow 24 = .ok (.iconst 3, 1) := by decide +kernel
theorem dX5_stopsNow_25 : decode cX5_stopsNow 25 = .ok (.invokevirtual 68, 3) := by decide +kernel
theorem dX5_stopsNow_28 : decode cX5_stopsNow 28 = .ok (.aload_n 0, 1) := by decide +kernel
theorem dX5_stopsNow_29 : decode cX5_stopsNow 29 = .ok (.iload_n 2, 1) := by decide +kernel
theorem dX5_stopsNow_30 : decode cX5_stopsNow 30 = .ok (.bipush 6, 2) := by decide +kernel
theorem dX5_stopsNow_32 : decode cX5_stopsNow 32 = .ok (.aload_n 0, 1) := by decide +kernel
theorem dX5_stopsNow_33 : decode cX5_stopsNow 33 = .ok (.getfield 7, 3) := by decide +kernel
theorem dX5_stopsNow_36 : decode cX5_stopsNow 36 = .ok (.iconst 0, 1) := by decide +kernel
theorem dX5_stopsNow_37 : decode cX5_stopsNow 37 = .ok (.iaload, 1) := by decide +kernel
theorem dX5_stopsNow_38 : decode cX5_stopsNow 38 = .ok (.invokevirtual 68, 3) := by decide +kernel
theorem dX5_stopsNow_41 : decode cX5_stopsNow 41 = .ok (.iinc 2 1, 3) := by decide +kernel
theorem dX5_stopsNow_44 : decode cX5_stopsNow 44 = .ok (.goto (-42), 3) := by decide +kernel
theorem dX5_stopsNow_47 : decode cX5_stopsNow 47 = .ok (.iconst 0, 1) := by decide +kernel
theorem dX5_stopsNow_48 : decode cX5_stopsNow 48 = .ok (.istore_n 2, 1) := by decide +kernel
theorem dX5_stopsNow_49 : decode cX5_stopsNow 49 = .ok (.iload_n 2, 1) := by decide +kernel
theorem dX5_stopsNow_50 : decode cX5_stopsNow 50 = .ok (.aload_n 0, 1) := by decide +kernel
theorem dX5_stopsNow_51 : decode cX5_stopsNow 51 = .ok (.getfield 7, 3) := by decide +kernel
theorem dX5_stopsNow_54 : decode cX5_stopsNow 54 = .ok (.iconst 2, 1) := by decide +kernel
theorem dX5_stopsNow_55 : decode cX5_stopsNow 55 = .ok (.iaload, 1) := by decide +kernel
theorem dX5_stopsNow_56 : decode cX5_stopsNow 56 = .ok (.if_icmp .ge 52, 3) := by decide +kernel
theorem dX5_stopsNow_59 : decode cX5_stopsNow 59 = .ok (.aload_n 0, 1) := by decide +kernel
theorem dX5_stopsNow_60 : decode cX5_stopsNow 60 = .ok (.iload_n 2, 1) := by decide +kernel
theorem dX5_stopsNow_61 : decode cX5_stopsNow 61 = .ok (.iload_n 1, 1) := by decide +kernel
theorem dX5_stopsNow_62 : decode cX5_stopsNow 62 = .ok (.invokevirtual 76, 3) := by decide +kernel
theorem dX5_stopsNow_65 : decode cX5_stopsNow 65 = .ok (.ifCond .eq 37, 3) := by decide +kernel
theorem dX5_stopsNow_68 : decode cX5_stopsNow 68 = .ok (.aload_n 0, 1) := by decide +kernel
theorem dX5_stopsNow_69 : decode cX5_stopsNow 69 = .ok (.iload_n 1, 1) := by decide +kernel
theorem dX5_stopsNow_70 : decode cX5_stopsNow 70 = .ok (.iconst 2, 1) := by decide +kernel
theorem dX5_stopsNow_71 : decode cX5_stopsNow 71 = .ok (.invokevirtual 55, 3) := by decide +kernel
theorem dX5_stopsNow_74 : decode cX5_stopsNow 74 = .ok (.aload_n 0, 1) := by decide +kernel
theorem dX5_stopsNow_75 : decode cX5_stopsNow 75 = .ok (.iload_n 1, 1) := by decide +kernel
theorem dX5_stopsNow_76 : decode cX5_stopsNow 76 = .ok (.iconst 2, 1) := by decide +kernel
theorem dX5_stopsNow_77 : decode cX5_stopsNow 77 = .ok (.invokevirtual 38, 3) := by decide +kernel
theorem dX5_stopsNow_80 : decode cX5_stopsNow 80 = .ok (.if_icmp .ge 22, 3) := by decide +kernel
theorem dX5_stopsNow_83 : decode cX5_stopsNow 83 = .ok (.aload_n 0, 1) := by decide +kernel
theorem dX5_stopsNow_84 : decode cX5_stopsNow 84 = .ok (.iload_n 2, 1) := by decide +kernel
theorem dX5_stopsNow_85 : decode cX5_stopsNow 85 = .ok (.iconst 2, 1) := by decide +kernel
theorem dX5_stopsNow_86 : decode cX5_stopsNow 86 = .ok (.iconst 2, 1) := by decide +kernel
theorem dX5_stopsNow_87 : decode cX5_stopsNow 87 = .ok (.invokevirtual 68, 3) := by decide +kernel
theorem dX5_stopsNow_90 : decode cX5_stopsNow 90 = .ok (.aload_n 0, 1) := by decide +kernel
theorem dX5_stopsNow_91 : decode cX5_stopsNow 91 = .ok (.iload_n 2, 1) := by decide +kernel
theorem dX5_stopsNow_92 : decode cX5_stopsNow 92 = .ok (.iconst 5, 1) := by decide +kernel
theorem dX5_stopsNow_93 : decode cX5_stopsNow 93 = .ok (.aload_n 0, 1) := by decide +kernel
theorem dX5_stopsNow_94 : decode cX5_stopsNow 94 = .ok (.getfield 7, 3) := by decide +kernel
theorem dX5_stopsNow_97 : decode cX5_stopsNow 97 = .ok (.iconst 0, 1) := by decide +kernel
theorem dX5_stopsNow_98 : decode cX5_stopsNow 98 = .ok (.iaload, 1) := by decide +kernel
theorem dX5_stopsNow_99 : decode cX5_stopsNow 99 = .ok (.invokevirtual 68, 3) := by decide +kernel
theorem dX5_stopsNow_102 : decode cX5_stopsNow 102 = .ok (.iinc 2 1, 3) := by decide +kernel
theorem dX5_stopsNow_105 : decode cX5_stopsNow 105 = .ok (.goto (-56), 3) := by decide +kernel
theorem dX5_stopsNow_108 : decode cX5_stopsNow 108 = .ok (.aload_n 0, 1) := by decide +kernel
theorem dX5_stopsNow_109 : decode cX5_stopsNow 109 = .ok (.getfield 7, 3) := by decide +kernel
theorem dX5_stopsNow_112 : decode cX5_stopsNow 112 = .ok (.iconst 3, 1) := by decide +kernel
theorem dX5_stopsNow_113 : decode cX5_stopsNow 113 = .ok (.dup2, 1) := by decide +kernel
theorem dX5_stopsNow_114 : decode cX5_stopsNow 114 = .ok (.iaload, 1) := by decide +kernel
theorem dX5_stopsNow_115 : decode cX5_stopsNow 115 = .ok (.iconst 1, 1) := by decide +kernel
theorem dX5_stopsNow_116 : decode cX5_stopsNow 116 = .ok (.iadd, 1) := by decide +kernel
theorem dX5_stopsNow_117 : decode cX5_stopsNow 117 = .ok (.iastore, 1) := by decide +kernel
theorem dX5_stopsNow_118 : decode cX5_stopsNow 118 = .ok (.return_, 1) := by decide +kernel
set_option maxRecDepth 20000 in
theorem ggX5_ticks_X5_ofCaller : GoodIn wsX5_ticks wsX5_ofCaller := goodIn_r _ [6, 1, 80, 81, 82, 83, 84] (by decide +kernel) (by decide +kernel)
set_option maxRecDepth 20000 in
theorem gX5_ticks_X5_ofCaller : GoodIn wsX5_ticks (wsV RX5 34 RX5 yX5_ofCaller wsX5_ofCaller) := goodIn_app (goodIn_of _ (by decide +kernel)) ggX5_ticks_X5_ofCaller
set_option maxRecDepth 20000 in
theorem ggX5_ticks_X5_gives : GoodIn wsX5_ticks wsX5_gives := goodIn_r _ [10, 2, 3, 4, 5, 6, 1, 11, 12, 13, 14, 15, 16, 17, 18, 19, 20, 21, 22, 23, 24, 25, 26, 27, 28, 29, 30, 31, 32, 33, 34, 35, 36, 37, 38, 39, 40, 41, 42, 43, 44, 45, 46, 47, 48, 49, 50, 51, 52, 53, 54, 55, 80, 81, 82, 83, 84] (by decide +kernel) (by decide +kernel)
set_option maxRecDepth 20000 in
theorem gX5_ticks_X5_gives : GoodIn wsX5_ticks (wsV RX5 79 RX5 yX5_gives wsX5_gives) := goodIn_app (goodIn_of _ (by decide +kernel)) ggX5_ticks_X5_gives
set_option maxRecDepth 20000 in
theorem ggX5_ticks_X5_ofCar : GoodIn wsX5_ticks wsX5_ofCar := goodIn_r _ [22, 1, 80, 81, 82, 83, 84] (by decide +kernel) (by decide +kernel)
set_option maxRecDepth 20000 in
theorem gX5_ticks_X5_ofCar : GoodIn wsX5_ticks (wsV RX5 38 RX5 yX5_ofCar wsX5_ofCar) := goodIn_app (goodIn_of _ (by decide +kernel)) ggX5_ticks_X5_ofCar
set_option maxRecDepth 20000 in
theorem ggX5_ticks_X5_aim : GoodIn wsX5_ticks wsX5_aim := goodIn_r _ [59, 1, 19, 20, 21, 5, 22, 2, 3, 4, 6, 45, 46, 47, 80, 81, 82, 83, 84] (by decide +kernel) (by decide +kernel)
set_option maxRecDepth 20000 in
theorem gX5_ticks_X5_aim : GoodIn wsX5_ticks (wsV RX5 83 RX5 yX5_aim wsX5_aim) := goodIn_app (goodIn_of _ (by decide +kernel)) ggX5_ticks_X5_aim
set_option maxRecDepth 20000 in
theorem ggX5_ticks_X5_isStop : GoodIn wsX5_ticks wsX5_isStop := goodIn_r _ [63, 1, 64, 65, 66, 5, 67, 2, 3, 4, 6, 19, 20, 21, 22, 68, 69, 70, 71, 48, 49, 50, 51, 80, 81, 82, 83, 84] (by decide +kernel) (by decide +kernel)
set_option maxRecDepth 20000 in
theorem gX5_ticks_X5_isStop : GoodIn wsX5_ticks (wsV RX5 86 RX5 yX5_isStop wsX5_isStop) := goodIn_app (goodIn_of _ (by decide +kernel)) ggX5_ticks_X5_isStop
set_option maxRecDepth 20000 in
theorem ggX5_ticks_X5_stopsNow : GoodIn wsX5_ticks wsX5_stopsNow := goodIn_r _ [75, 1, 64, 65, 66, 5, 67, 2, 3, 4, 6, 19, 20, 21, 22, 52, 53, 54, 55, 68, 69, 70, 71, 48, 49, 50, 51, 80, 81, 82, 83, 84] (by decide +kernel) (by decide +kernel)
set_option maxRecDepth 20000 in
theorem gX5_ticks_X5_stopsNow : GoodIn wsX5_ticks (wsV RX5 89 RX5 yX5_stopsNow wsX5_stopsNow) := goodIn_app (goodIn_of _ (by decide +kernel)) ggX5_ticks_X5_stopsNow
set_option maxRecDepth 20000 in
theorem ggX5_ticks_X5_putsCar : GoodIn wsX5_ticks wsX5_putsCar := goodIn_r _ [79, 1, 80, 81, 82, 83, 84] (by decide +kernel) (by decide +kernel)
set_option maxRecDepth 20000 in
theorem gX5_ticks_X5_putsCar : GoodIn wsX5_ticks (wsV RX5 92 RX5 yX5_putsCar wsX5_putsCar) := goodIn_app (goodIn_of _ (by decide +kernel)) ggX5_ticks_X5_putsCar
theorem dX5_ticks_0 : decode cX5_ticks 0 = .ok (.iconst 0, 1) := by decide +kernel
theorem dX5_ticks_1 : decode cX5_ticks 1 = .ok (.istore_n 1, 1) := by decide +kernel
theorem dX5_ticks_2 : decode cX5_ticks 2 = .ok (.iload_n 1, 1) := by decide +kernel
theorem dX5_ticks_3 : decode cX5_ticks 3 = .ok (.aload_n 0, 1) := by decide +kernel
theorem dX5_ticks_4 : decode cX5_ticks 4 = .ok (.getfield 7, 3) := by decide +kernel
theorem dX5_ticks_7 : decode cX5_ticks 7 = .ok (.iconst 2, 1) := by decide +kernel
theorem dX5_ticks_8 : decode cX5_ticks 8 = .ok (.iaload, 1) := by decide +kernel
theorem dX5_ticks_9 : decode cX5_ticks 9 = .ok (.if_icmp .ge 23, 3) := by decide +kernel
theorem dX5_ticks_12 : decode cX5_ticks 12 = .ok (.aload_n 0, 1) := by decide +kernel
theorem dX5_ticks_13 : decode cX5_ticks 13 = .ok (.iload_n 1, 1) := by decide +kernel
theorem dX5_ticks_14 : decode cX5_ticks 14 = .ok (.iconst 2, 1) := by decide +kernel
theorem dX5_ticks_15 : decode cX5_ticks 15 = .ok (.invokevirtual 34, 3) := by decide +kernel
theorem dX5_ticks_18 : decode cX5_ticks 18 = .ok (.ifCond .ne 8, 3) := by decide +kernel
theorem dX5_ticks_21 : decode cX5_ticks 21 = .ok (.aload_n 0, 1) := by decide +kernel
theorem dX5_ticks_22 : decode cX5_ticks 22 = .ok (.iload_n 1, 1) := by decide +kernel
theorem dX5_ticks_23 : decode cX5_ticks 23 = .ok (.invokevirtual 79, 3) := by decide +kernel
theorem dX5_ticks_26 : decode cX5_ticks 26 = .ok (.iinc 1 1, 3) := by decide +kernel
theorem dX5_ticks_29 : decode cX5_ticks 29 = .ok (.goto (-27), 3) := by decide +kernel
theorem dX5_ticks_32 : decode cX5_ticks 32 = .ok (.iconst 0, 1) := by decide +kernel
theorem dX5_ticks_33 : decode cX5_ticks 33 = .ok (.istore_n 1, 1) := by decide +kernel
theorem dX5_ticks_34 : decode cX5_ticks 34 = .ok (.iload_n 1, 1) := by decide +kernel
theorem dX5_ticks_35 : decode cX5_ticks 35 = .ok (.aload_n 0, 1) := by decide +kernel
theorem dX5_ticks_36 : decode cX5_ticks 36 = .ok (.getfield 7, 3) := by decide +kernel
theorem dX5_ticks_39 : decode cX5_ticks 39 = .ok (.iconst 1, 1) := by decide +kernel
theorem dX5_ticks_40 : decode cX5_ticks 40 = .ok (.iaload, 1) := by decide +kernel
theorem dX5_ticks_41 : decode cX5_ticks 41 = .ok (.if_icmp .ge 88, 3) := by decide +kernel
theorem dX5_ticks_44 : decode cX5_ticks 44 = .ok (.aload_n 0, 1) := by decide +kernel
theorem dX5_ticks_45 : decode cX5_ticks 45 = .ok (.iload_n 1, 1) := by decide +kernel
theorem dX5_ticks_46 : decode cX5_ticks 46 = .ok (.iconst 4, 1) := by decide +kernel
theorem dX5_ticks_47 : decode cX5_ticks 47 = .ok (.invokevirtual 38, 3) := by decide +kernel
theorem dX5_ticks_50 : decode cX5_ticks 50 = .ok (.ifCond .ne 73, 3) := by decide +kernel
theorem dX5_ticks_53 : decode cX5_ticks 53 = .ok (.aload_n 0, 1) := by decide +kernel
theorem dX5_ticks_54 : decode cX5_ticks 54 = .ok (.iload_n 1, 1) := by decide +kernel
theorem dX5_ticks_55 : decode cX5_ticks 55 = .ok (.invokevirtual 83, 3) := by decide +kernel
theorem dX5_ticks_58 : decode cX5_ticks 58 = .ok (.istore_n 2, 1) := by decide +kernel
theorem dX5_ticks_59 : decode cX5_ticks 59 = .ok (.aload_n 0, 1) := by decide +kernel
theorem dX5_ticks_60 : decode cX5_ticks 60 = .ok (.iload_n 1, 1) := by decide +kernel
theorem dX5_ticks_61 : decode cX5_ticks 61 = .ok (.invokevirtual 86, 3) := by decide +kernel
theorem dX5_ticks_64 : decode cX5_ticks 64 = .ok (.ifCond .eq 11, 3) := by decide +kernel
theorem dX5_ticks_67 : decode cX5_ticks 67 = .ok (.aload_n 0, 1) := by decide +kernel
theorem dX5_ticks_68 : decode cX5_ticks 68 = .ok (.iload_n 1, 1) := by decide +kernel
theorem dX5_ticks_69 : decode cX5_ticks 69 = .ok (.invokevirtual 89, 3) := by decide +kernel
theorem dX5_ticks_72 : decode cX5_ticks 72 = .ok (.goto 51, 3) := by decide +kernel
theorem dX5_ticks_75 : decode cX5_ticks 75 = .ok (.iload_n 2, 1) := by decide +kernel
theorem dX5_ticks_76 : decode cX5_ticks 76 = .ok (.bipush (-9), 2) := by decide +kernel
theorem dX5_ticks_78 : decode cX5_ticks 78 = .ok (.if_icmp .eq 45, 3) := by decide +kernel
theorem dX5_ticks_81 : decode cX5_ticks 81 = .ok (.aload_n 0, 1) := by decide +kernel
theorem dX5_ticks_82 : decode cX5_ticks 82 = .ok (.iload_n 1, 1) := by decide +kernel
theorem dX5_ticks_83 : decode cX5_ticks 83 = .ok (.iconst 3, 1) := by decide +kernel
theorem dX5_ticks_84 : decode cX5_ticks 84 = .ok (.aload_n 0, 1) := by decide +kernel
theorem dX5_ticks_85 : decode cX5_ticks 85 = .ok (.iload_n 1, 1) := by decide +kernel
theorem dX5_ticks_86 : decode cX5_ticks 86 = .ok (.iconst 3, 1) := by decide +kernel
theorem dX5_ticks_87 : decode cX5_ticks 87 = .ok (.invokevirtual 38, 3) := by decide +kernel
theorem dX5_ticks_90 : decode cX5_ticks 90 = .ok (.iload_n 2, 1) := by decide +kernel
theorem dX5_ticks_91 : decode cX5_ticks 91 = .ok (.aload_n 0, 1) := by decide +kernel
theorem dX5_ticks_92 : decode cX5_ticks 92 = .ok (.iload_n 1, 1) := by decide +kernel
theorem dX5_ticks_93 : decode cX5_ticks 93 = .ok (.iconst 3, 1) := by decide +kernel
theorem dX5_ticks_94 : decode cX5_ticks 94 = .ok (.invokevirtual 38, 3) := by decide +kernel
theorem dX5_ticks_97 : decode cX5_ticks 97 = .ok (.if_icmp .le 7, 3) := by decide +kernel
theorem dX5_ticks_100 : decode cX5_ticks 100 = .ok (.iconst 1, 1) := by decide +kernel
theorem dX5_ticks_101 : decode cX5_ticks 101 = .ok (.goto 4, 3) := by decide +kernel
theorem dX5_ticks_104 : decode cX5_ticks 104 = .ok (.iconst (-1), 1) := by decide +kernel
theorem dX5_ticks_105 : decode cX5_ticks 105 = .ok (.iadd, 1) := by decide +kernel
theorem dX5_ticks_106 : decode cX5_ticks 106 = .ok (.invokevirtual 92, 3) := by decide +kernel
theorem dX5_ticks_109 : decode cX5_ticks 109 = .ok (.aload_n 0, 1) := by decide +kernel
theorem dX5_ticks_110 : decode cX5_ticks 110 = .ok (.iload_n 1, 1) := by decide +kernel
theorem dX5_ticks_111 : decode cX5_ticks 111 = .ok (.iconst 5, 1) := by decide +kernel
theorem dX5_ticks_112 : decode cX5_ticks 112 = .ok (.aload_n 0, 1) := by decide +kernel
theorem dX5_ticks_113 : decode cX5_ticks 113 = .ok (.iload_n 1, 1) := by decide +kernel
theorem dX5_ticks_114 : decode cX5_ticks 114 = .ok (.iconst 5, 1) := by decide +kernel
theorem dX5_ticks_115 : decode cX5_ticks 115 = .ok (.invokevirtual 38, 3) := by decide +kernel
theorem dX5_ticks_118 : decode cX5_ticks 118 = .ok (.iconst 1, 1) := by decide +kernel
theorem dX5_ticks_119 : decode cX5_ticks 119 = .ok (.iadd, 1) := by decide +kernel
theorem dX5_ticks_120 : decode cX5_ticks 120 = .ok (.invokevirtual 92, 3) := by decide +kernel
theorem dX5_ticks_123 : decode cX5_ticks 123 = .ok (.iinc 1 1, 3) := by decide +kernel
theorem dX5_ticks_126 : decode cX5_ticks 126 = .ok (.goto (-92), 3) := by decide +kernel
theorem dX5_ticks_129 : decode cX5_ticks 129 = .ok (.aload_n 0, 1) := by decide +kernel
theorem dX5_ticks_130 : decode cX5_ticks 130 = .ok (.getfield 7, 3) := by decide +kernel
theorem dX5_ticks_133 : decode cX5_ticks 133 = .ok (.iconst 0, 1) := by decide +kernel
theorem dX5_ticks_134 : decode cX5_ticks 134 = .ok (.dup2, 1) := by decide +kernel
theorem dX5_ticks_135 : decode cX5_ticks 135 = .ok (.iaload, 1) := by decide +kernel
theorem dX5_ticks_136 : decode cX5_ticks 136 = .ok (.iconst 1, 1) := by decide +kernel
theorem dX5_ticks_137 : decode cX5_ticks 137 = .ok (.iadd, 1) := by decide +kernel
theorem dX5_ticks_138 : decode cX5_ticks 138 = .ok (.iastore, 1) := by decide +kernel
theorem dX5_ticks_139 : decode cX5_ticks 139 = .ok (.return_, 1) := by decide +kernel
set_option maxRecDepth 20000 in
theorem ggX5_fails_X5_ofCaller : GoodIn wsX5_fails wsX5_ofCaller := goodIn_r _ [6, 1, 26, 27, 28, 29, 30] (by decide +kernel) (by decide +kernel)
set_option maxRecDepth 20000 in
theorem gX5_fails_X5_ofCaller : GoodIn wsX5_fails (wsV RX5 34 RX5 yX5_ofCaller wsX5_ofCaller) := goodIn_app (goodIn_of _ (by decide +kernel)) ggX5_fails_X5_ofCaller
set_option maxRecDepth 20000 in
theorem ggX5_fails_X5_in : GoodIn wsX5_fails wsX5_in := goodIn_r _ [9] (by decide +kernel) (by decide +kernel)
set_option maxRecDepth 20000 in
theorem gX5_fails_X5_in : GoodIn wsX5_fails (va_wsS RX5 26 yX5_in wsX5_in) := goodIn_app (goodIn_of _ (by decide +kernel)) ggX5_fails_X5_in
set_option maxRecDepth 20000 in
theorem ggX5_fails_X5_isOut : GoodIn wsX5_fails wsX5_isOut := goodIn_r _ [13, 2, 3, 4, 5, 6, 1, 14, 15, 16, 17, 26, 27, 28, 29, 30] (by decide +kernel) (by decide +kernel)
set_option maxRecDepth 20000 in
theorem gX5_fails_X5_isOut : GoodIn wsX5_fails (wsV RX5 72 RX5 yX5_isOut wsX5_isOut) := goodIn_app (goodIn_of _ (by decide +kernel)) ggX5_fails_X5_isOut
set_option maxRecDepth 20000 in
theorem ggX5_fails_X5_ofCar : GoodIn wsX5_fails wsX5_ofCar := goodIn_r _ [17, 1, 26, 27, 28, 29, 30] (by decide +kernel) (by decide +kernel)
set_option maxRecDepth 20000 in
theorem gX5_fails_X5_ofCar : GoodIn wsX5_fails (wsV RX5 38 RX5 yX5_ofCar wsX5_ofCar) := goodIn_app (goodIn_of _ (by decide +kernel)) ggX5_fails_X5_ofCar
set_option maxRecDepth 20000 in
theorem ggX5_fails_X5_puts : GoodIn wsX5_fails wsX5_puts := goodIn_r _ [21, 1, 26, 27, 28, 29, 30] (by decide +kernel) (by decide +kernel)
set_option maxRecDepth 20000 in
theorem gX5_fails_X5_puts : GoodIn wsX5_fails (wsV RX5 68 RX5 yX5_puts wsX5_puts) := goodIn_app (goodIn_of _ (by decide +kernel)) ggX5_fails_X5_puts
set_option maxRecDepth 20000 in
theorem ggX5_fails_X5_putsCar : GoodIn wsX5_fails wsX5_putsCar := goodIn_r _ [25, 1, 26, 27, 28, 29, 30] (by decide +kernel) (by decide +kernel)
set_option maxRecDepth 20000 in
theorem gX5_fails_X5_putsCar : GoodIn wsX5_fails (wsV RX5 92 RX5 yX5_putsCar wsX5_putsCar) := goodIn_app (goodIn_of _ (by decide +kernel)) ggX5_fails_X5_putsCar
theorem dX5_fails_0 : decode cX5_fails 0 = .ok (.iconst 0, 1) := by decide +kernel
theorem dX5_fails_1 : decode cX5_fails 1 = .ok (.istore_n 2, 1) := by decide +kernel
theorem dX5_fails_2 : decode cX5_fails 2 = .ok (.iload_n 2, 1) := by decide +kernel
theorem dX5_fails_3 : decode cX5_fails 3 = .ok (.aload_n 0, 1) := by decide +kernel
theorem dX5_fails_4 : decode cX5_fails 4 = .ok (.getfield 7, 3) := by decide +kernel
theorem dX5_fails_7 : decode cX5_fails 7 = .ok (.iconst 2, 1) := by decide +kernel
theorem dX5_fails_8 : decode cX5_fails 8 = .ok (.iaload, 1) := by decide +kernel
theorem dX5_fails_9 : decode cX5_fails 9 = .ok (.if_icmp .ge 124, 3) := by decide +kernel
theorem dX5_fails_12 : decode cX5_fails 12 = .ok (.aload_n 0, 1) := by decide +kernel
theorem dX5_fails_13 : decode cX5_fails 13 = .ok (.iload_n 2, 1) := by decide +kernel
theorem dX5_fails_14 : decode cX5_fails 14 = .ok (.iconst 3, 1) := by decide +kernel
theorem dX5_fails_15 : decode cX5_fails 15 = .ok (.invokevirtual 34, 3) := by decide +kernel
theorem dX5_fails_18 : decode cX5_fails 18 = .ok (.iload_n 1, 1) := by decide +kernel
theorem dX5_fails_19 : decode cX5_fails 19 = .ok (.if_icmp .ne 108, 3) := by decide +kernel
theorem dX5_fails_22 : decode cX5_fails 22 = .ok (.aload_n 0, 1) := by decide +kernel
theorem dX5_fails_23 : decode cX5_fails 23 = .ok (.iload_n 2, 1) := by decide +kernel
theorem dX5_fails_24 : decode cX5_fails 24 = .ok (.iconst 2, 1) := by decide +kernel
theorem dX5_fails_25 : decode cX5_fails 25 = .ok (.invokevirtual 34, 3) := by decide +kernel
theorem dX5_fails_28 : decode cX5_fails 28 = .ok (.iconst 1, 1) := by decide +kernel
theorem dX5_fails_29 : decode cX5_fails 29 = .ok (.iconst 2, 1) := by decide +kernel
theorem dX5_fails_30 : decode cX5_fails 30 = .ok (.invokestatic 26, 3) := by decide +kernel
theorem dX5_fails_33 : decode cX5_fails 33 = .ok (.ifCond .eq 94, 3) := by decide +kernel
theorem dX5_fails_36 : decode cX5_fails 36 = .ok (.aload_n 0, 1) := by decide +kernel
theorem dX5_fails_37 : decode cX5_fails 37 = .ok (.iload_n 2, 1) := by decide +kernel
theorem dX5_fails_38 : decode cX5_fails 38 = .ok (.iload_n 1, 1) := by decide +kernel
theorem dX5_fails_39 : decode cX5_fails 39 = .ok (.invokevirtual 72, 3) := by decide +kernel
theorem dX5_fails_42 : decode cX5_fails 42 = .ok (.istore_n 3, 1) := by decide +kernel
theorem dX5_fails_43 : decode cX5_fails 43 = .ok (.aload_n 0, 1) := by decide +kernel
theorem dX5_fails_44 : decode cX5_fails 44 = .ok (.iload_n 2, 1) := by decide +kernel
theorem dX5_fails_45 : decode cX5_fails 45 = .ok (.iconst 0, 1) := by decide +kernel
theorem dX5_fails_46 : decode cX5_fails 46 = .ok (.aload_n 0, 1) := by decide +kernel
theorem dX5_fails_47 : decode cX5_fails 47 = .ok (.iload_n 2, 1) := by decide +kernel
theorem dX5_fails_48 : decode cX5_fails 48 = .ok (.iconst 2, 1) := by decide +kernel
theorem dX5_fails_49 : decode cX5_fails 49 = .ok (.invokevirtual 34, 3) := by decide +kernel
theorem dX5_fails_52 : decode cX5_fails 52 = .ok (.iconst 2, 1) := by decide +kernel
theorem dX5_fails_53 : decode cX5_fails 53 = .ok (.if_icmp .ne 12, 3) := by decide +kernel
theorem dX5_fails_56 : decode cX5_fails 56 = .ok (.aload_n 0, 1) := by decide +kernel
theorem dX5_fails_57 : decode cX5_fails 57 = .ok (.iload_n 1, 1) := by decide +kernel
theorem dX5_fails_58 : decode cX5_fails 58 = .ok (.iconst 3, 1) := by decide +kernel
theorem dX5_fails_59 : decode cX5_fails 59 = .ok (.invokevirtual 38, 3) := by decide +kernel
theorem dX5_fails_62 : decode cX5_fails 62 = .ok (.goto 9, 3) := by decide +kernel
theorem dX5_fails_65 : decode cX5_fails 65 = .ok (.aload_n 0, 1) := by decide +kernel
theorem dX5_fails_66 : decode cX5_fails 66 = .ok (.iload_n 2, 1) := by decide +kernel
theorem dX5_fails_67 : decode cX5_fails 67 = .ok (.iconst 0, 1) := by decide +kernel
theorem dX5_fails_68 : decode cX5_fails 68 = .ok (.invokevirtual 34, 3) := by decide +kernel
theorem dX5_fails_71 : decode cX5_fails 71 = .ok (.invokevirtual 68, 3) := by decide +kernel
theorem dX5_fails_74 : decode cX5_fails 74 = .ok (.aload_n 0, 1) := by decide +kernel
theorem dX5_fails_75 : decode cX5_fails 75 = .ok (.iload_n 2, 1) := by decide +kernel
theorem dX5_fails_76 : decode cX5_fails 76 = .ok (.bipush 6, 2) := by decide +kernel
theorem dX5_fails_78 : decode cX5_fails 78 = .ok (.iload_n 3, 1) := by decide +kernel
theorem dX5_fails_79 : decode cX5_fails 79 = .ok (.ifCond .eq 12, 3) := by decide +kernel
theorem dX5_fails_82 : decode cX5_fails 82 = .ok (.aload_n 0, 1) := by decide +kernel
theorem dX5_fails_83 : decode cX5_fails 83 = .ok (.getfield 7, 3) := by decide +kernel
theorem dX5_fails_86 : decode cX5_fails 86 = .ok (.iconst 0, 1) := by decide +kernel
theorem dX5_fails_87 : decode cX5_fails 87 = .ok (.iaload, 1) := by decide +kernel
theorem dX5_fails_88 : decode cX5_fails 88 = .ok (.goto 5, 3) := by decide +kernel
theorem dX5_fails_91 : decode cX5_fails 91 = .ok (.bipush (-9), 2) := by decide +kernel
theorem dX5_fails_93 : decode cX5_fails 93 = .ok (.invokevirtual 68, 3) := by decide +kernel
theorem dX5_fails_96 : decode cX5_fails 96 = .ok (.aload_n 0, 1) := by decide +kernel
theorem dX5_fails_97 : decode cX5_fails 97 = .ok (.iload_n 2, 1) := by decide +kernel
theorem dX5_fails_98 : decode cX5_fails 98 = .ok (.iconst 3, 1) := by decide +kernel
theorem dX5_fails_99 : decode cX5_fails 99 = .ok (.iload_n 3, 1) := by decide +kernel
theorem dX5_fails_100 : decode cX5_fails 100 = .ok (.ifCond .eq 7, 3) := by decide +kernel
theorem dX5_fails_103 : decode cX5_fails 103 = .ok (.iload_n 1, 1) := by decide +kernel
theorem dX5_fails_104 : decode cX5_fails 104 = .ok (.goto 5, 3) := by decide +kernel
theorem dX5_fails_107 : decode cX5_fails 107 = .ok (.bipush (-9), 2) := by decide +kernel
theorem dX5_fails_109 : decode cX5_fails 109 = .ok (.invokevirtual 68, 3) := by decide +kernel
theorem dX5_fails_112 : decode cX5_fails 112 = .ok (.aload_n 0, 1) := by decide +kernel
theorem dX5_fails_113 : decode cX5_fails 113 = .ok (.iload_n 2, 1) := by decide +kernel
theorem dX5_fails_114 : decode cX5_fails 114 = .ok (.iconst 2, 1) := by decide +kernel
theorem dX5_fails_115 : decode cX5_fails 115 = .ok (.iload_n 3, 1) := by decide +kernel
theorem dX5_fails_116 : decode cX5_fails 116 = .ok (.ifCond .eq 7, 3) := by decide +kernel
theorem dX5_fails_119 : decode cX5_fails 119 = .ok (.iconst 3, 1) := by decide +kernel
theorem dX5_fails_120 : decode cX5_fails 120 = .ok (.goto 4, 3) := by decide +kernel
theorem dX5_fails_123 : decode cX5_fails 123 = .ok (.iconst 0, 1) := by decide +kernel
theorem dX5_fails_124 : decode cX5_fails 124 = .ok (.invokevirtual 68, 3) := by decide +kernel
theorem dX5_fails_127 : decode cX5_fails 127 = .ok (.iinc 2 1, 3) := by decide +kernel
theorem dX5_fails_130 : decode cX5_fails 130 = .ok (.goto (-128), 3) := by decide +kernel
theorem dX5_fails_133 : decode cX5_fails 133 = .ok (.aload_n 0, 1) := by decide +kernel
theorem dX5_fails_134 : decode cX5_fails 134 = .ok (.iload_n 1, 1) := by decide +kernel
theorem dX5_fails_135 : decode cX5_fails 135 = .ok (.iconst 4, 1) := by decide +kernel
theorem dX5_fails_136 : decode cX5_fails 136 = .ok (.iconst 2, 1) := by decide +kernel
theorem dX5_fails_137 : decode cX5_fails 137 = .ok (.invokevirtual 92, 3) := by decide +kernel
theorem dX5_fails_140 : decode cX5_fails 140 = .ok (.return_, 1) := by decide +kernel
set_option maxRecDepth 20000 in
theorem ggX5_addCar_X5_in : GoodIn wsX5_addCar wsX5_in := goodIn_r _ [5] (by decide +kernel) (by decide +kernel)
set_option maxRecDepth 20000 in
theorem gX5_addCar_X5_in : GoodIn wsX5_addCar (va_wsS RX5 26 yX5_in wsX5_in) := goodIn_app (goodIn_of _ (by decide +kernel)) ggX5_addCar_X5_in
set_option maxRecDepth 20000 in
theorem ggX5_addCar_X5_acts : GoodIn wsX5_addCar wsX5_acts := goodIn_r _ [9, 10, 11, 1, 16, 17, 18, 19, 20] (by decide +kernel) (by decide +kernel)
set_option maxRecDepth 20000 in
theorem gX5_addCar_X5_acts : GoodIn wsX5_addCar (wsV RX5 95 RX5 yX5_acts wsX5_acts) := goodIn_app (goodIn_of _ (by decide +kernel)) ggX5_addCar_X5_acts
set_option maxRecDepth 20000 in
theorem ggX5_addCar_X5_putsCar : GoodIn wsX5_addCar wsX5_putsCar := goodIn_r _ [15, 1, 16, 17, 18, 19, 20] (by decide +kernel) (by decide +kernel)
set_option maxRecDepth 20000 in
theorem gX5_addCar_X5_putsCar : GoodIn wsX5_addCar (wsV RX5 92 RX5 yX5_putsCar wsX5_putsCar) := goodIn_app (goodIn_of _ (by decide +kernel)) ggX5_addCar_X5_putsCar
theorem dX5_addCar_0 : decode cX5_addCar 0 = .ok (.iload_n 1, 1) := by decide +kernel
theorem dX5_addCar_1 : decode cX5_addCar 1 = .ok (.iconst 0, 1) := by decide +kernel
theorem dX5_addCar_2 : decode cX5_addCar 2 = .ok (.bipush 14, 2) := by decide +kernel
theorem dX5_addCar_4 : decode cX5_addCar 4 = .ok (.invokestatic 26, 3) := by decide +kernel
theorem dX5_addCar_7 : decode cX5_addCar 7 = .ok (.ifCond .eq 28, 3) := by decide +kernel
theorem dX5_addCar_10 : decode cX5_addCar 10 = .ok (.iload_n 2, 1) := by decide +kernel
theorem dX5_addCar_11 : decode cX5_addCar 11 = .ok (.iconst 1, 1) := by decide +kernel
theorem dX5_addCar_12 : decode cX5_addCar 12 = .ok (.bipush 15, 2) := by decide +kernel
theorem dX5_addCar_14 : decode cX5_addCar 14 = .ok (.invokestatic 26, 3) := by decide +kernel
theorem dX5_addCar_17 : decode cX5_addCar 17 = .ok (.ifCond .eq 18, 3) := by decide +kernel
theorem dX5_addCar_20 : decode cX5_addCar 20 = .ok (.iload_n 2, 1) := by decide +kernel
theorem dX5_addCar_21 : decode cX5_addCar 21 = .ok (.iload_n 1, 1) := by decide +kernel
theorem dX5_addCar_22 : decode cX5_addCar 22 = .ok (.if_icmp .le 13, 3) := by decide +kernel
theorem dX5_addCar_25 : decode cX5_addCar 25 = .ok (.iload_n 3, 1) := by decide +kernel
theorem dX5_addCar_26 : decode cX5_addCar 26 = .ok (.iconst 1, 1) := by decide +kernel
theorem dX5_addCar_27 : decode cX5_addCar 27 = .ok (.bipush 8, 2) := by decide +kernel
theorem dX5_addCar_29 : decode cX5_addCar 29 = .ok (.invokestatic 26, 3) := by decide +kernel
theorem dX5_addCar_32 : decode cX5_addCar 32 = .ok (.ifCond .ne 5, 3) := by decide +kernel
theorem dX5_addCar_35 : decode cX5_addCar 35 = .ok (.iconst (-1), 1) := by decide +kernel
theorem dX5_addCar_36 : decode cX5_addCar 36 = .ok (.ireturn, 1) := by decide +kernel
theorem dX5_addCar_37 : decode cX5_addCar 37 = .ok (.aload_n 0, 1) := by decide +kernel
theorem dX5_addCar_38 : decode cX5_addCar 38 = .ok (.getfield 7, 3) := by decide +kernel
theorem dX5_addCar_41 : decode cX5_addCar 41 = .ok (.iconst 1, 1) := by decide +kernel
theorem dX5_addCar_42 : decode cX5_addCar 42 = .ok (.iaload, 1) := by decide +kernel
theorem dX5_addCar_43 : decode cX5_addCar 43 = .ok (.iconst 5, 1) := by decide +kernel
theorem dX5_addCar_44 : decode cX5_addCar 44 = .ok (.if_icmp .ne 6, 3) := by decide +kernel
theorem dX5_addCar_47 : decode cX5_addCar 47 = .ok (.bipush (-3), 2) := by decide +kernel
theorem dX5_addCar_49 : decode cX5_addCar 49 = .ok (.ireturn, 1) := by decide +kernel
theorem dX5_addCar_50 : decode cX5_addCar 50 = .ok (.aload_n 0, 1) := by decide +kernel
theorem dX5_addCar_51 : decode cX5_addCar 51 = .ok (.invokevirtual 95, 3) := by decide +kernel
theorem dX5_addCar_54 : decode cX5_addCar 54 = .ok (.aload_n 0, 1) := by decide +kernel
theorem dX5_addCar_55 : decode cX5_addCar 55 = .ok (.getfield 7, 3) := by decide +kernel
theorem dX5_addCar_58 : decode cX5_addCar 58 = .ok (.iconst 1, 1) := by decide +kernel
theorem dX5_addCar_59 : decode cX5_addCar 59 = .ok (.iaload, 1) := by decide +kernel
theorem dX5_addCar_60 : decode cX5_addCar 60 = .ok (.istore 4, 2) := by decide +kernel
theorem dX5_addCar_62 : decode cX5_addCar 62 = .ok (.aload_n 0, 1) := by decide +kernel
theorem dX5_addCar_63 : decode cX5_addCar 63 = .ok (.iload 4, 2) := by decide +kernel
theorem dX5_addCar_65 : decode cX5_addCar 65 = .ok (.iconst 0, 1) := by decide +kernel
theorem dX5_addCar_66 : decode cX5_addCar 66 = .ok (.iload_n 1, 1) := by decide +kernel
theorem dX5_addCar_67 : decode cX5_addCar 67 = .ok (.invokevirtual 92, 3) := by decide +kernel
theorem dX5_addCar_70 : decode cX5_addCar 70 = .ok (.aload_n 0, 1) := by decide +kernel
theorem dX5_addCar_71 : decode cX5_addCar 71 = .ok (.iload 4, 2) := by decide +kernel
theorem dX5_addCar_73 : decode cX5_addCar 73 = .ok (.iconst 1, 1) := by decide +kernel
theorem dX5_addCar_74 : decode cX5_addCar 74 = .ok (.iload_n 2, 1) := by decide +kernel
theorem dX5_addCar_75 : decode cX5_addCar 75 = .ok (.invokevirtual 92, 3) := by decide +kernel
theorem dX5_addCar_78 : decode cX5_addCar 78 = .ok (.aload_n 0, 1) := by decide +kernel
theorem dX5_addCar_79 : decode cX5_addCar 79 = .ok (.iload 4, 2) := by decide +kernel
theorem dX5_addCar_81 : decode cX5_addCar 81 = .ok (.iconst 2, 1) := by decide +kernel
theorem dX5_addCar_82 : decode cX5_addCar 82 = .ok (.iload_n 3, 1) := by decide +kernel
theorem dX5_addCar_83 : decode cX5_addCar 83 = .ok (.invokevirtual 92, 3) := by decide +kernel
theorem dX5_addCar_86 : decode cX5_addCar 86 = .ok (.aload_n 0, 1) := by decide +kernel
theorem dX5_addCar_87 : decode cX5_addCar 87 = .ok (.iload 4, 2) := by decide +kernel
theorem dX5_addCar_89 : decode cX5_addCar 89 = .ok (.iconst 3, 1) := by decide +kernel
theorem dX5_addCar_90 : decode cX5_addCar 90 = .ok (.iload_n 1, 1) := by decide +kernel
theorem dX5_addCar_91 : decode cX5_addCar 91 = .ok (.invokevirtual 92, 3) := by decide +kernel
theorem dX5_addCar_94 : decode cX5_addCar 94 = .ok (.aload_n 0, 1) := by decide +kernel
theorem dX5_addCar_95 : decode cX5_addCar 95 = .ok (.iload 4, 2) := by decide +kernel
theorem dX5_addCar_97 : decode cX5_addCar 97 = .ok (.iconst 4, 1) := by decide +kernel
theorem dX5_addCar_98 : decode cX5_addCar 98 = .ok (.iconst 0, 1) := by decide +kernel
theorem dX5_addCar_99 : decode cX5_addCar 99 = .ok (.invokevirtual 92, 3) := by decide +kernel
theorem dX5_addCar_102 : decode cX5_addCar 102 = .ok (.aload_n 0, 1) := by decide +kernel
end
section
theorem dX5_addCar_103 : decode cX5_addCar 103 = .ok (.iload 4, 2) := by decide +kernel
theorem dX5_addCar_105 : decode cX5_addCar 105 = .ok (.iconst 5, 1) := by decide +kernel
theorem dX5_addCar_106 : decode cX5_addCar 106 = .ok (.iconst 0, 1) := by decide +kernel
theorem dX5_addCar_107 : decode cX5_addCar 107 = .ok (.invokevirtual 92, 3) := by decide +kernel
theorem dX5_addCar_110 : decode cX5_addCar 110 = .ok (.aload_n 0, 1) := by decide +kernel
theorem dX5_addCar_111 : decode cX5_addCar 111 = .ok (.getfield 7, 3) := by decide +kernel
theorem dX5_addCar_114 : decode cX5_addCar 114 = .ok (.iconst 1, 1) := by decide +kernel
theorem dX5_addCar_115 : decode cX5_addCar 115 = .ok (.dup2, 1) := by decide +kernel
theorem dX5_addCar_116 : decode cX5_addCar 116 = .ok (.iaload, 1) := by decide +kernel
theorem dX5_addCar_117 : decode cX5_addCar 117 = .ok (.iconst 1, 1) := by decide +kernel
theorem dX5_addCar_118 : decode cX5_addCar 118 = .ok (.iadd, 1) := by decide +kernel
theorem dX5_addCar_119 : decode cX5_addCar 119 = .ok (.iastore, 1) := by decide +kernel
theorem dX5_addCar_120 : decode cX5_addCar 120 = .ok (.iload 4, 2) := by decide +kernel
theorem dX5_addCar_122 : decode cX5_addCar 122 = .ok (.ireturn, 1) := by decide +kernel
set_option maxRecDepth 20000 in
theorem ggX5_setAwake_X5_in : GoodIn wsX5_setAwake wsX5_in := goodIn_r _ [5] (by decide +kernel) (by decide +kernel)
set_option maxRecDepth 20000 in
theorem gX5_setAwake_X5_in : GoodIn wsX5_setAwake (va_wsS RX5 26 yX5_in wsX5_in) := goodIn_app (goodIn_of _ (by decide +kernel)) ggX5_setAwake_X5_in
set_option maxRecDepth 20000 in
theorem ggX5_setAwake_X5_acts : GoodIn wsX5_setAwake wsX5_acts := goodIn_r _ [9, 10, 11, 1, 12, 13, 14, 15, 16] (by decide +kernel) (by decide +kernel)
set_option maxRecDepth 20000 in
theorem gX5_setAwake_X5_acts : GoodIn wsX5_setAwake (wsV RX5 95 RX5 yX5_acts wsX5_acts) := goodIn_app (goodIn_of _ (by decide +kernel)) ggX5_setAwake_X5_acts
theorem dX5_setAwake_0 : decode cX5_setAwake 0 = .ok (.iload_n 1, 1) := by decide +kernel
theorem dX5_setAwake_1 : decode cX5_setAwake 1 = .ok (.iconst 0, 1) := by decide +kernel
theorem dX5_setAwake_2 : decode cX5_setAwake 2 = .ok (.bipush 23, 2) := by decide +kernel
theorem dX5_setAwake_4 : decode cX5_setAwake 4 = .ok (.invokestatic 26, 3) := by decide +kernel
theorem dX5_setAwake_7 : decode cX5_setAwake 7 = .ok (.ifCond .eq 12, 3) := by decide +kernel
theorem dX5_setAwake_10 : decode cX5_setAwake 10 = .ok (.iload_n 2, 1) := by decide +kernel
theorem dX5_setAwake_11 : decode cX5_setAwake 11 = .ok (.iconst 1, 1) := by decide +kernel
theorem dX5_setAwake_12 : decode cX5_setAwake 12 = .ok (.iconst 5, 1) := by decide +kernel
theorem dX5_setAwake_13 : decode cX5_setAwake 13 = .ok (.invokestatic 26, 3) := by decide +kernel
theorem dX5_setAwake_16 : decode cX5_setAwake 16 = .ok (.ifCond .ne 5, 3) := by decide +kernel
theorem dX5_setAwake_19 : decode cX5_setAwake 19 = .ok (.iconst (-1), 1) := by decide +kernel
theorem dX5_setAwake_20 : decode cX5_setAwake 20 = .ok (.ireturn, 1) := by decide +kernel
theorem dX5_setAwake_21 : decode cX5_setAwake 21 = .ok (.aload_n 0, 1) := by decide +kernel
theorem dX5_setAwake_22 : decode cX5_setAwake 22 = .ok (.invokevirtual 95, 3) := by decide +kernel
theorem dX5_setAwake_25 : decode cX5_setAwake 25 = .ok (.aload_n 0, 1) := by decide +kernel
theorem dX5_setAwake_26 : decode cX5_setAwake 26 = .ok (.getfield 7, 3) := by decide +kernel
theorem dX5_setAwake_29 : decode cX5_setAwake 29 = .ok (.iconst 4, 1) := by decide +kernel
theorem dX5_setAwake_30 : decode cX5_setAwake 30 = .ok (.iload_n 1, 1) := by decide +kernel
theorem dX5_setAwake_31 : decode cX5_setAwake 31 = .ok (.iadd, 1) := by decide +kernel
theorem dX5_setAwake_32 : decode cX5_setAwake 32 = .ok (.iaload, 1) := by decide +kernel
theorem dX5_setAwake_33 : decode cX5_setAwake 33 = .ok (.istore_n 3, 1) := by decide +kernel
theorem dX5_setAwake_34 : decode cX5_setAwake 34 = .ok (.aload_n 0, 1) := by decide +kernel
theorem dX5_setAwake_35 : decode cX5_setAwake 35 = .ok (.getfield 7, 3) := by decide +kernel
theorem dX5_setAwake_38 : decode cX5_setAwake 38 = .ok (.iconst 4, 1) := by decide +kernel
theorem dX5_setAwake_39 : decode cX5_setAwake 39 = .ok (.iload_n 1, 1) := by decide +kernel
theorem dX5_setAwake_40 : decode cX5_setAwake 40 = .ok (.iadd, 1) := by decide +kernel
theorem dX5_setAwake_41 : decode cX5_setAwake 41 = .ok (.iload_n 2, 1) := by decide +kernel
theorem dX5_setAwake_42 : decode cX5_setAwake 42 = .ok (.iastore, 1) := by decide +kernel
theorem dX5_setAwake_43 : decode cX5_setAwake 43 = .ok (.iload_n 3, 1) := by decide +kernel
theorem dX5_setAwake_44 : decode cX5_setAwake 44 = .ok (.ireturn, 1) := by decide +kernel
set_option maxRecDepth 20000 in
theorem ggX5_hold_X5_isCar : GoodIn wsX5_hold wsX5_isCar := goodIn_r _ [5, 6, 32, 33, 34, 35, 36] (by decide +kernel) (by decide +kernel)
set_option maxRecDepth 20000 in
theorem gX5_hold_X5_isCar : GoodIn wsX5_hold (wsV RX5 98 RX5 yX5_isCar wsX5_isCar) := goodIn_app (goodIn_of _ (by decide +kernel)) ggX5_hold_X5_isCar
set_option maxRecDepth 20000 in
theorem ggX5_hold_X5_in : GoodIn wsX5_hold wsX5_in := goodIn_r _ [9] (by decide +kernel) (by decide +kernel)
set_option maxRecDepth 20000 in
theorem gX5_hold_X5_in : GoodIn wsX5_hold (va_wsS RX5 26 yX5_in wsX5_in) := goodIn_app (goodIn_of _ (by decide +kernel)) ggX5_hold_X5_in
set_option maxRecDepth 20000 in
theorem ggX5_hold_X5_ofCar : GoodIn wsX5_hold wsX5_ofCar := goodIn_r _ [13, 6, 32, 33, 34, 35, 36] (by decide +kernel) (by decide +kernel)
set_option maxRecDepth 20000 in
theorem gX5_hold_X5_ofCar : GoodIn wsX5_hold (wsV RX5 38 RX5 yX5_ofCar wsX5_ofCar) := goodIn_app (goodIn_of _ (by decide +kernel)) ggX5_hold_X5_ofCar
set_option maxRecDepth 20000 in
theorem ggX5_hold_X5_acts : GoodIn wsX5_hold wsX5_acts := goodIn_r _ [17, 18, 19, 6, 32, 33, 34, 35, 36] (by decide +kernel) (by decide +kernel)
set_option maxRecDepth 20000 in
theorem gX5_hold_X5_acts : GoodIn wsX5_hold (wsV RX5 95 RX5 yX5_acts wsX5_acts) := goodIn_app (goodIn_of _ (by decide +kernel)) ggX5_hold_X5_acts
set_option maxRecDepth 20000 in
theorem ggX5_hold_X5_putsCar : GoodIn wsX5_hold wsX5_putsCar := goodIn_r _ [23, 6, 32, 33, 34, 35, 36] (by decide +kernel) (by decide +kernel)
set_option maxRecDepth 20000 in
theorem gX5_hold_X5_putsCar : GoodIn wsX5_hold (wsV RX5 92 RX5 yX5_putsCar wsX5_putsCar) := goodIn_app (goodIn_of _ (by decide +kernel)) ggX5_hold_X5_putsCar
set_option maxRecDepth 20000 in
theorem ggX5_hold_X5_many : GoodIn wsX5_hold wsX5_many := goodIn_r _ [27, 6, 28, 29, 30, 4, 31, 32, 33, 34, 35, 36] (by decide +kernel) (by decide +kernel)
set_option maxRecDepth 20000 in
theorem gX5_hold_X5_many : GoodIn wsX5_hold (wsV RX5 55 RX5 yX5_many wsX5_many) := goodIn_app (goodIn_of _ (by decide +kernel)) ggX5_hold_X5_many
theorem dX5_hold_0 : decode cX5_hold 0 = .ok (.aload_n 0, 1) := by decide +kernel
theorem dX5_hold_1 : decode cX5_hold 1 = .ok (.iload_n 1, 1) := by decide +kernel
theorem dX5_hold_2 : decode cX5_hold 2 = .ok (.invokevirtual 98, 3) := by decide +kernel
theorem dX5_hold_5 : decode cX5_hold 5 = .ok (.ifCond .eq 12, 3) := by decide +kernel
theorem dX5_hold_8 : decode cX5_hold 8 = .ok (.iload_n 2, 1) := by decide +kernel
theorem dX5_hold_9 : decode cX5_hold 9 = .ok (.iconst 0, 1) := by decide +kernel
theorem dX5_hold_10 : decode cX5_hold 10 = .ok (.iconst 1, 1) := by decide +kernel
theorem dX5_hold_11 : decode cX5_hold 11 = .ok (.invokestatic 26, 3) := by decide +kernel
theorem dX5_hold_14 : decode cX5_hold 14 = .ok (.ifCond .ne 5, 3) := by decide +kernel
theorem dX5_hold_17 : decode cX5_hold 17 = .ok (.iconst (-1), 1) := by decide +kernel
theorem dX5_hold_18 : decode cX5_hold 18 = .ok (.ireturn, 1) := by decide +kernel
theorem dX5_hold_19 : decode cX5_hold 19 = .ok (.aload_n 0, 1) := by decide +kernel
theorem dX5_hold_20 : decode cX5_hold 20 = .ok (.iload_n 1, 1) := by decide +kernel
theorem dX5_hold_21 : decode cX5_hold 21 = .ok (.iconst 4, 1) := by decide +kernel
theorem dX5_hold_22 : decode cX5_hold 22 = .ok (.invokevirtual 38, 3) := by decide +kernel
theorem dX5_hold_25 : decode cX5_hold 25 = .ok (.iconst 2, 1) := by decide +kernel
theorem dX5_hold_26 : decode cX5_hold 26 = .ok (.if_icmp .eq 13, 3) := by decide +kernel
theorem dX5_hold_29 : decode cX5_hold 29 = .ok (.aload_n 0, 1) := by decide +kernel
theorem dX5_hold_30 : decode cX5_hold 30 = .ok (.iload_n 1, 1) := by decide +kernel
theorem dX5_hold_31 : decode cX5_hold 31 = .ok (.iconst 4, 1) := by decide +kernel
theorem dX5_hold_32 : decode cX5_hold 32 = .ok (.invokevirtual 38, 3) := by decide +kernel
theorem dX5_hold_35 : decode cX5_hold 35 = .ok (.iload_n 2, 1) := by decide +kernel
theorem dX5_hold_36 : decode cX5_hold 36 = .ok (.if_icmp .ne 6, 3) := by decide +kernel
theorem dX5_hold_39 : decode cX5_hold 39 = .ok (.bipush (-2), 2) := by decide +kernel
theorem dX5_hold_41 : decode cX5_hold 41 = .ok (.ireturn, 1) := by decide +kernel
theorem dX5_hold_42 : decode cX5_hold 42 = .ok (.aload_n 0, 1) := by decide +kernel
theorem dX5_hold_43 : decode cX5_hold 43 = .ok (.invokevirtual 95, 3) := by decide +kernel
theorem dX5_hold_46 : decode cX5_hold 46 = .ok (.aload_n 0, 1) := by decide +kernel
theorem dX5_hold_47 : decode cX5_hold 47 = .ok (.iload_n 1, 1) := by decide +kernel
theorem dX5_hold_48 : decode cX5_hold 48 = .ok (.iconst 4, 1) := by decide +kernel
theorem dX5_hold_49 : decode cX5_hold 49 = .ok (.iload_n 2, 1) := by decide +kernel
theorem dX5_hold_50 : decode cX5_hold 50 = .ok (.iconst 1, 1) := by decide +kernel
theorem dX5_hold_51 : decode cX5_hold 51 = .ok (.if_icmp .ne 7, 3) := by decide +kernel
theorem dX5_hold_54 : decode cX5_hold 54 = .ok (.iconst 1, 1) := by decide +kernel
theorem dX5_hold_55 : decode cX5_hold 55 = .ok (.goto 4, 3) := by decide +kernel
theorem dX5_hold_58 : decode cX5_hold 58 = .ok (.iconst 0, 1) := by decide +kernel
theorem dX5_hold_59 : decode cX5_hold 59 = .ok (.invokevirtual 92, 3) := by decide +kernel
theorem dX5_hold_62 : decode cX5_hold 62 = .ok (.aload_n 0, 1) := by decide +kernel
theorem dX5_hold_63 : decode cX5_hold 63 = .ok (.iload_n 1, 1) := by decide +kernel
theorem dX5_hold_64 : decode cX5_hold 64 = .ok (.iconst 1, 1) := by decide +kernel
theorem dX5_hold_65 : decode cX5_hold 65 = .ok (.invokevirtual 55, 3) := by decide +kernel
theorem dX5_hold_68 : decode cX5_hold 68 = .ok (.aload_n 0, 1) := by decide +kernel
theorem dX5_hold_69 : decode cX5_hold 69 = .ok (.iload_n 1, 1) := by decide +kernel
theorem dX5_hold_70 : decode cX5_hold 70 = .ok (.iconst 2, 1) := by decide +kernel
theorem dX5_hold_71 : decode cX5_hold 71 = .ok (.invokevirtual 55, 3) := by decide +kernel
theorem dX5_hold_74 : decode cX5_hold 74 = .ok (.iadd, 1) := by decide +kernel
theorem dX5_hold_75 : decode cX5_hold 75 = .ok (.ireturn, 1) := by decide +kernel
set_option maxRecDepth 20000 in
theorem ggX5_fail_X5_isCar : GoodIn wsX5_fail wsX5_isCar := goodIn_r _ [5, 6, 44, 45, 46, 47, 48] (by decide +kernel) (by decide +kernel)
set_option maxRecDepth 20000 in
theorem gX5_fail_X5_isCar : GoodIn wsX5_fail (wsV RX5 98 RX5 yX5_isCar wsX5_isCar) := goodIn_app (goodIn_of _ (by decide +kernel)) ggX5_fail_X5_isCar
set_option maxRecDepth 20000 in
theorem ggX5_fail_X5_ofCar : GoodIn wsX5_fail wsX5_ofCar := goodIn_r _ [10, 6, 44, 45, 46, 47, 48] (by decide +kernel) (by decide +kernel)
set_option maxRecDepth 20000 in
theorem gX5_fail_X5_ofCar : GoodIn wsX5_fail (wsV RX5 38 RX5 yX5_ofCar wsX5_ofCar) := goodIn_app (goodIn_of _ (by decide +kernel)) ggX5_fail_X5_ofCar
set_option maxRecDepth 20000 in
theorem ggX5_fail_X5_acts : GoodIn wsX5_fail wsX5_acts := goodIn_r _ [14, 15, 16, 6, 44, 45, 46, 47, 48] (by decide +kernel) (by decide +kernel)
set_option maxRecDepth 20000 in
theorem gX5_fail_X5_acts : GoodIn wsX5_fail (wsV RX5 95 RX5 yX5_acts wsX5_acts) := goodIn_app (goodIn_of _ (by decide +kernel)) ggX5_fail_X5_acts
set_option maxRecDepth 20000 in
theorem ggX5_fail_X5_fails : GoodIn wsX5_fail wsX5_fails := goodIn_r _ [20, 6, 21, 22, 23, 4, 24, 25, 26, 27, 28, 29, 30, 31, 7, 8, 9, 10, 32, 33, 34, 35, 36, 37, 38, 39, 44, 45, 46, 47, 48] (by decide +kernel) (by decide +kernel)
set_option maxRecDepth 20000 in
theorem gX5_fail_X5_fails : GoodIn wsX5_fail (wsV RX5 101 RX5 yX5_fails wsX5_fails) := goodIn_app (goodIn_of _ (by decide +kernel)) ggX5_fail_X5_fails
set_option maxRecDepth 20000 in
theorem ggX5_fail_X5_inAll : GoodIn wsX5_fail wsX5_inAll := goodIn_r _ [43, 6, 21, 22, 23, 4, 24, 44, 45, 46, 47, 48] (by decide +kernel) (by decide +kernel)
set_option maxRecDepth 20000 in
theorem gX5_fail_X5_inAll : GoodIn wsX5_fail (wsV RX5 104 RX5 yX5_inAll wsX5_inAll) := goodIn_app (goodIn_of _ (by decide +kernel)) ggX5_fail_X5_inAll
theorem dX5_fail_0 : decode cX5_fail 0 = .ok (.aload_n 0, 1) := by decide +kernel
theorem dX5_fail_1 : decode cX5_fail 1 = .ok (.iload_n 1, 1) := by decide +kernel
theorem dX5_fail_2 : decode cX5_fail 2 = .ok (.invokevirtual 98, 3) := by decide +kernel
theorem dX5_fail_5 : decode cX5_fail 5 = .ok (.ifCond .ne 5, 3) := by decide +kernel
theorem dX5_fail_8 : decode cX5_fail 8 = .ok (.iconst (-1), 1) := by decide +kernel
theorem dX5_fail_9 : decode cX5_fail 9 = .ok (.ireturn, 1) := by decide +kernel
theorem dX5_fail_10 : decode cX5_fail 10 = .ok (.aload_n 0, 1) := by decide +kernel
theorem dX5_fail_11 : decode cX5_fail 11 = .ok (.iload_n 1, 1) := by decide +kernel
theorem dX5_fail_12 : decode cX5_fail 12 = .ok (.iconst 4, 1) := by decide +kernel
theorem dX5_fail_13 : decode cX5_fail 13 = .ok (.invokevirtual 38, 3) := by decide +kernel
theorem dX5_fail_16 : decode cX5_fail 16 = .ok (.iconst 2, 1) := by decide +kernel
theorem dX5_fail_17 : decode cX5_fail 17 = .ok (.if_icmp .ne 6, 3) := by decide +kernel
theorem dX5_fail_20 : decode cX5_fail 20 = .ok (.bipush (-2), 2) := by decide +kernel
theorem dX5_fail_22 : decode cX5_fail 22 = .ok (.ireturn, 1) := by decide +kernel
theorem dX5_fail_23 : decode cX5_fail 23 = .ok (.aload_n 0, 1) := by decide +kernel
theorem dX5_fail_24 : decode cX5_fail 24 = .ok (.invokevirtual 95, 3) := by decide +kernel
theorem dX5_fail_27 : decode cX5_fail 27 = .ok (.aload_n 0, 1) := by decide +kernel
theorem dX5_fail_28 : decode cX5_fail 28 = .ok (.iload_n 1, 1) := by decide +kernel
theorem dX5_fail_29 : decode cX5_fail 29 = .ok (.invokevirtual 101, 3) := by decide +kernel
theorem dX5_fail_32 : decode cX5_fail 32 = .ok (.aload_n 0, 1) := by decide +kernel
theorem dX5_fail_33 : decode cX5_fail 33 = .ok (.iconst 0, 1) := by decide +kernel
theorem dX5_fail_34 : decode cX5_fail 34 = .ok (.invokevirtual 104, 3) := by decide +kernel
theorem dX5_fail_37 : decode cX5_fail 37 = .ok (.ireturn, 1) := by decide +kernel
set_option maxRecDepth 20000 in
theorem ggX5_repair_X5_isCar : GoodIn wsX5_repair wsX5_isCar := goodIn_r _ [5, 6, 21, 22, 23, 24, 25] (by decide +kernel) (by decide +kernel)
set_option maxRecDepth 20000 in
theorem gX5_repair_X5_isCar : GoodIn wsX5_repair (wsV RX5 98 RX5 yX5_isCar wsX5_isCar) := goodIn_app (goodIn_of _ (by decide +kernel)) ggX5_repair_X5_isCar
set_option maxRecDepth 20000 in
theorem ggX5_repair_X5_ofCar : GoodIn wsX5_repair wsX5_ofCar := goodIn_r _ [10, 6, 21, 22, 23, 24, 25] (by decide +kernel) (by decide +kernel)
set_option maxRecDepth 20000 in
theorem gX5_repair_X5_ofCar : GoodIn wsX5_repair (wsV RX5 38 RX5 yX5_ofCar wsX5_ofCar) := goodIn_app (goodIn_of _ (by decide +kernel)) ggX5_repair_X5_ofCar
set_option maxRecDepth 20000 in
theorem ggX5_repair_X5_acts : GoodIn wsX5_repair wsX5_acts := goodIn_r _ [14, 15, 16, 6, 21, 22, 23, 24, 25] (by decide +kernel) (by decide +kernel)
set_option maxRecDepth 20000 in
theorem gX5_repair_X5_acts : GoodIn wsX5_repair (wsV RX5 95 RX5 yX5_acts wsX5_acts) := goodIn_app (goodIn_of _ (by decide +kernel)) ggX5_repair_X5_acts
set_option maxRecDepth 20000 in
theorem ggX5_repair_X5_putsCar : GoodIn wsX5_repair wsX5_putsCar := goodIn_r _ [20, 6, 21, 22, 23, 24, 25] (by decide +kernel) (by decide +kernel)
set_option maxRecDepth 20000 in
theorem gX5_repair_X5_putsCar : GoodIn wsX5_repair (wsV RX5 92 RX5 yX5_putsCar wsX5_putsCar) := goodIn_app (goodIn_of _ (by decide +kernel)) ggX5_repair_X5_putsCar
theorem dX5_repair_0 : decode cX5_repair 0 = .ok (.aload_n 0, 1) := by decide +kernel
theorem dX5_repair_1 : decode cX5_repair 1 = .ok (.iload_n 1, 1) := by decide +kernel
theorem dX5_repair_2 : decode cX5_repair 2 = .ok (.invokevirtual 98, 3) := by decide +kernel
theorem dX5_repair_5 : decode cX5_repair 5 = .ok (.ifCond .ne 5, 3) := by decide +kernel
theorem dX5_repair_8 : decode cX5_repair 8 = .ok (.iconst (-1), 1) := by decide +kernel
theorem dX5_repair_9 : decode cX5_repair 9 = .ok (.ireturn, 1) := by decide +kernel
theorem dX5_repair_10 : decode cX5_repair 10 = .ok (.aload_n 0, 1) := by decide +kernel
theorem dX5_repair_11 : decode cX5_repair 11 = .ok (.iload_n 1, 1) := by decide +kernel
theorem dX5_repair_12 : decode cX5_repair 12 = .ok (.iconst 4, 1) := by decide +kernel
theorem dX5_repair_13 : decode cX5_repair 13 = .ok (.invokevirtual 38, 3) := by decide +kernel
theorem dX5_repair_16 : decode cX5_repair 16 = .ok (.iconst 2, 1) := by decide +kernel
theorem dX5_repair_17 : decode cX5_repair 17 = .ok (.if_icmp .eq 6, 3) := by decide +kernel
theorem dX5_repair_20 : decode cX5_repair 20 = .ok (.bipush (-2), 2) := by decide +kernel
theorem dX5_repair_22 : decode cX5_repair 22 = .ok (.ireturn, 1) := by decide +kernel
theorem dX5_repair_23 : decode cX5_repair 23 = .ok (.aload_n 0, 1) := by decide +kernel
theorem dX5_repair_24 : decode cX5_repair 24 = .ok (.invokevirtual 95, 3) := by decide +kernel
theorem dX5_repair_27 : decode cX5_repair 27 = .ok (.aload_n 0, 1) := by decide +kernel
theorem dX5_repair_28 : decode cX5_repair 28 = .ok (.iload_n 1, 1) := by decide +kernel
theorem dX5_repair_29 : decode cX5_repair 29 = .ok (.iconst 4, 1) := by decide +kernel
theorem dX5_repair_30 : decode cX5_repair 30 = .ok (.iconst 0, 1) := by decide +kernel
theorem dX5_repair_31 : decode cX5_repair 31 = .ok (.invokevirtual 92, 3) := by decide +kernel
theorem dX5_repair_34 : decode cX5_repair 34 = .ok (.aload_n 0, 1) := by decide +kernel
theorem dX5_repair_35 : decode cX5_repair 35 = .ok (.iload_n 1, 1) := by decide +kernel
theorem dX5_repair_36 : decode cX5_repair 36 = .ok (.iconst 3, 1) := by decide +kernel
theorem dX5_repair_37 : decode cX5_repair 37 = .ok (.invokevirtual 38, 3) := by decide +kernel
theorem dX5_repair_40 : decode cX5_repair 40 = .ok (.ireturn, 1) := by decide +kernel
set_option maxRecDepth 20000 in
theorem ggX5_isWay_X5_isFloor : GoodIn wsX5_isWay wsX5_isFloor := goodIn_r _ [4, 5, 6, 3, 7] (by decide +kernel) (by decide +kernel)
set_option maxRecDepth 20000 in
theorem gX5_isWay_X5_isFloor : GoodIn wsX5_isWay (va_wsS RX5 107 yX5_isFloor wsX5_isFloor) := goodIn_app (goodIn_of _ (by decide +kernel)) ggX5_isWay_X5_isFloor
theorem dX5_isWay_0 : decode cX5_isWay 0 = .ok (.iload_n 0, 1) := by decide +kernel
theorem dX5_isWay_1 : decode cX5_isWay 1 = .ok (.invokestatic 107, 3) := by decide +kernel
theorem dX5_isWay_4 : decode cX5_isWay 4 = .ok (.ifCond .eq 19, 3) := by decide +kernel
theorem dX5_isWay_7 : decode cX5_isWay 7 = .ok (.iload_n 1, 1) := by decide +kernel
theorem dX5_isWay_8 : decode cX5_isWay 8 = .ok (.invokestatic 107, 3) := by decide +kernel
theorem dX5_isWay_11 : decode cX5_isWay 11 = .ok (.ifCond .eq 12, 3) := by decide +kernel
theorem dX5_isWay_14 : decode cX5_isWay 14 = .ok (.iload_n 0, 1) := by decide +kernel
theorem dX5_isWay_15 : decode cX5_isWay 15 = .ok (.iload_n 1, 1) := by decide +kernel
theorem dX5_isWay_16 : decode cX5_isWay 16 = .ok (.if_icmp .eq 7, 3) := by decide +kernel
theorem dX5_isWay_19 : decode cX5_isWay 19 = .ok (.iconst 1, 1) := by decide +kernel
theorem dX5_isWay_20 : decode cX5_isWay 20 = .ok (.goto 4, 3) := by decide +kernel
theorem dX5_isWay_23 : decode cX5_isWay 23 = .ok (.iconst 0, 1) := by decide +kernel
theorem dX5_isWay_24 : decode cX5_isWay 24 = .ok (.ireturn, 1) := by decide +kernel
set_option maxRecDepth 20000 in
theorem ggX5_call_X5_isWay : GoodIn wsX5_call wsX5_isWay := goodIn_r _ [5, 6, 7, 4, 8, 9, 10, 11] (by decide +kernel) (by decide +kernel)
set_option maxRecDepth 20000 in
theorem gX5_call_X5_isWay : GoodIn wsX5_call (va_wsS RX5 110 yX5_isWay wsX5_isWay) := goodIn_app (goodIn_of _ (by decide +kernel)) ggX5_call_X5_isWay
set_option maxRecDepth 20000 in
theorem ggX5_call_X5_acts : GoodIn wsX5_call wsX5_acts := goodIn_r _ [15, 16, 17, 1, 68, 69, 70, 71, 72] (by decide +kernel) (by decide +kernel)
set_option maxRecDepth 20000 in
theorem gX5_call_X5_acts : GoodIn wsX5_call (wsV RX5 95 RX5 yX5_acts wsX5_acts) := goodIn_app (goodIn_of _ (by decide +kernel)) ggX5_call_X5_acts
set_option maxRecDepth 20000 in
theorem ggX5_call_X5_puts : GoodIn wsX5_call wsX5_puts := goodIn_r _ [21, 1, 68, 69, 70, 71, 72] (by decide +kernel) (by decide +kernel)
set_option maxRecDepth 20000 in
theorem gX5_call_X5_puts : GoodIn wsX5_call (wsV RX5 68 RX5 yX5_puts wsX5_puts) := goodIn_app (goodIn_of _ (by decide +kernel)) ggX5_call_X5_puts
set_option maxRecDepth 20000 in
theorem ggX5_call_X5_gives : GoodIn wsX5_call wsX5_gives := goodIn_r _ [25, 26, 27, 28, 4, 29, 1, 30, 31, 32, 33, 34, 35, 36, 37, 38, 39, 40, 41, 42, 43, 44, 45, 46, 47, 48, 49, 9, 10, 11, 50, 51, 52, 53, 54, 55, 56, 57, 58, 59, 60, 61, 62, 63, 64, 65, 66, 67, 18, 19, 20, 21, 68, 69, 70, 71, 72] (by decide +kernel) (by decide +kernel)
set_option maxRecDepth 20000 in
theorem gX5_call_X5_gives : GoodIn wsX5_call (wsV RX5 79 RX5 yX5_gives wsX5_gives) := goodIn_app (goodIn_of _ (by decide +kernel)) ggX5_call_X5_gives
theorem dX5_call_0 : decode cX5_call 0 = .ok (.iload_n 1, 1) := by decide +kernel
theorem dX5_call_1 : decode cX5_call 1 = .ok (.iload_n 2, 1) := by decide +kernel
theorem dX5_call_2 : decode cX5_call 2 = .ok (.invokestatic 110, 3) := by decide +kernel
theorem dX5_call_5 : decode cX5_call 5 = .ok (.ifCond .ne 5, 3) := by decide +kernel
theorem dX5_call_8 : decode cX5_call 8 = .ok (.iconst (-1), 1) := by decide +kernel
theorem dX5_call_9 : decode cX5_call 9 = .ok (.ireturn, 1) := by decide +kernel
theorem dX5_call_10 : decode cX5_call 10 = .ok (.aload_n 0, 1) := by decide +kernel
theorem dX5_call_11 : decode cX5_call 11 = .ok (.getfield 7, 3) := by decide +kernel
theorem dX5_call_14 : decode cX5_call 14 = .ok (.iconst 2, 1) := by decide +kernel
theorem dX5_call_15 : decode cX5_call 15 = .ok (.iaload, 1) := by decide +kernel
theorem dX5_call_16 : decode cX5_call 16 = .ok (.bipush 40, 2) := by decide +kernel
theorem dX5_call_18 : decode cX5_call 18 = .ok (.if_icmp .ne 6, 3) := by decide +kernel
theorem dX5_call_21 : decode cX5_call 21 = .ok (.bipush (-3), 2) := by decide +kernel
theorem dX5_call_23 : decode cX5_call 23 = .ok (.ireturn, 1) := by decide +kernel
theorem dX5_call_24 : decode cX5_call 24 = .ok (.aload_n 0, 1) := by decide +kernel
theorem dX5_call_25 : decode cX5_call 25 = .ok (.invokevirtual 95, 3) := by decide +kernel
theorem dX5_call_28 : decode cX5_call 28 = .ok (.aload_n 0, 1) := by decide +kernel
theorem dX5_call_29 : decode cX5_call 29 = .ok (.getfield 7, 3) := by decide +kernel
theorem dX5_call_32 : decode cX5_call 32 = .ok (.iconst 2, 1) := by decide +kernel
theorem dX5_call_33 : decode cX5_call 33 = .ok (.iaload, 1) := by decide +kernel
theorem dX5_call_34 : decode cX5_call 34 = .ok (.istore_n 3, 1) := by decide +kernel
theorem dX5_call_35 : decode cX5_call 35 = .ok (.aload_n 0, 1) := by decide +kernel
theorem dX5_call_36 : decode cX5_call 36 = .ok (.iload_n 3, 1) := by decide +kernel
theorem dX5_call_37 : decode cX5_call 37 = .ok (.iconst 0, 1) := by decide +kernel
theorem dX5_call_38 : decode cX5_call 38 = .ok (.iload_n 1, 1) := by decide +kernel
theorem dX5_call_39 : decode cX5_call 39 = .ok (.invokevirtual 68, 3) := by decide +kernel
theorem dX5_call_42 : decode cX5_call 42 = .ok (.aload_n 0, 1) := by decide +kernel
theorem dX5_call_43 : decode cX5_call 43 = .ok (.iload_n 3, 1) := by decide +kernel
theorem dX5_call_44 : decode cX5_call 44 = .ok (.iconst 1, 1) := by decide +kernel
theorem dX5_call_45 : decode cX5_call 45 = .ok (.iload_n 2, 1) := by decide +kernel
theorem dX5_call_46 : decode cX5_call 46 = .ok (.invokevirtual 68, 3) := by decide +kernel
theorem dX5_call_49 : decode cX5_call 49 = .ok (.aload_n 0, 1) := by decide +kernel
theorem dX5_call_50 : decode cX5_call 50 = .ok (.iload_n 3, 1) := by decide +kernel
theorem dX5_call_51 : decode cX5_call 51 = .ok (.iconst 2, 1) := by decide +kernel
theorem dX5_call_52 : decode cX5_call 52 = .ok (.iconst 0, 1) := by decide +kernel
theorem dX5_call_53 : decode cX5_call 53 = .ok (.invokevirtual 68, 3) := by decide +kernel
theorem dX5_call_56 : decode cX5_call 56 = .ok (.aload_n 0, 1) := by decide +kernel
theorem dX5_call_57 : decode cX5_call 57 = .ok (.iload_n 3, 1) := by decide +kernel
theorem dX5_call_58 : decode cX5_call 58 = .ok (.iconst 3, 1) := by decide +kernel
theorem dX5_call_59 : decode cX5_call 59 = .ok (.bipush (-9), 2) := by decide +kernel
theorem dX5_call_61 : decode cX5_call 61 = .ok (.invokevirtual 68, 3) := by decide +kernel
theorem dX5_call_64 : decode cX5_call 64 = .ok (.aload_n 0, 1) := by decide +kernel
theorem dX5_call_65 : decode cX5_call 65 = .ok (.iload_n 3, 1) := by decide +kernel
theorem dX5_call_66 : decode cX5_call 66 = .ok (.iconst 4, 1) := by decide +kernel
theorem dX5_call_67 : decode cX5_call 67 = .ok (.aload_n 0, 1) := by decide +kernel
theorem dX5_call_68 : decode cX5_call 68 = .ok (.getfield 7, 3) := by decide +kernel
theorem dX5_call_71 : decode cX5_call 71 = .ok (.iconst 0, 1) := by decide +kernel
theorem dX5_call_72 : decode cX5_call 72 = .ok (.iaload, 1) := by decide +kernel
theorem dX5_call_73 : decode cX5_call 73 = .ok (.invokevirtual 68, 3) := by decide +kernel
theorem dX5_call_76 : decode cX5_call 76 = .ok (.aload_n 0, 1) := by decide +kernel
theorem dX5_call_77 : decode cX5_call 77 = .ok (.iload_n 3, 1) := by decide +kernel
theorem dX5_call_78 : decode cX5_call 78 = .ok (.iconst 5, 1) := by decide +kernel
theorem dX5_call_79 : decode cX5_call 79 = .ok (.bipush (-9), 2) := by decide +kernel
theorem dX5_call_81 : decode cX5_call 81 = .ok (.invokevirtual 68, 3) := by decide +kernel
theorem dX5_call_84 : decode cX5_call 84 = .ok (.aload_n 0, 1) := by decide +kernel
theorem dX5_call_85 : decode cX5_call 85 = .ok (.iload_n 3, 1) := by decide +kernel
theorem dX5_call_86 : decode cX5_call 86 = .ok (.bipush 6, 2) := by decide +kernel
theorem dX5_call_88 : decode cX5_call 88 = .ok (.bipush (-9), 2) := by decide +kernel
theorem dX5_call_90 : decode cX5_call 90 = .ok (.invokevirtual 68, 3) := by decide +kernel
theorem dX5_call_93 : decode cX5_call 93 = .ok (.aload_n 0, 1) := by decide +kernel
theorem dX5_call_94 : decode cX5_call 94 = .ok (.iload_n 3, 1) := by decide +kernel
theorem dX5_call_95 : decode cX5_call 95 = .ok (.bipush 7, 2) := by decide +kernel
theorem dX5_call_97 : decode cX5_call 97 = .ok (.iconst 0, 1) := by decide +kernel
theorem dX5_call_98 : decode cX5_call 98 = .ok (.invokevirtual 68, 3) := by decide +kernel
theorem dX5_call_101 : decode cX5_call 101 = .ok (.aload_n 0, 1) := by decide +kernel
theorem dX5_call_102 : decode cX5_call 102 = .ok (.getfield 7, 3) := by decide +kernel
theorem dX5_call_105 : decode cX5_call 105 = .ok (.iconst 2, 1) := by decide +kernel
theorem dX5_call_106 : decode cX5_call 106 = .ok (.dup2, 1) := by decide +kernel
theorem dX5_call_107 : decode cX5_call 107 = .ok (.iaload, 1) := by decide +kernel
theorem dX5_call_108 : decode cX5_call 108 = .ok (.iconst 1, 1) := by decide +kernel
theorem dX5_call_109 : decode cX5_call 109 = .ok (.iadd, 1) := by decide +kernel
theorem dX5_call_110 : decode cX5_call 110 = .ok (.iastore, 1) := by decide +kernel
theorem dX5_call_111 : decode cX5_call 111 = .ok (.aload_n 0, 1) := by decide +kernel
theorem dX5_call_112 : decode cX5_call 112 = .ok (.iload_n 3, 1) := by decide +kernel
theorem dX5_call_113 : decode cX5_call 113 = .ok (.invokevirtual 79, 3) := by decide +kernel
theorem dX5_call_116 : decode cX5_call 116 = .ok (.iload_n 3, 1) := by decide +kernel
theorem dX5_call_117 : decode cX5_call 117 = .ok (.ireturn, 1) := by decide +kernel
set_option maxRecDepth 20000 in
theorem ggX5_pass_X5_in : GoodIn wsX5_pass wsX5_in := goodIn_r _ [5] (by decide +kernel) (by decide +kernel)
set_option maxRecDepth 20000 in
theorem gX5_pass_X5_in : GoodIn wsX5_pass (va_wsS RX5 26 yX5_in wsX5_in) := goodIn_app (goodIn_of _ (by decide +kernel)) ggX5_pass_X5_in
set_option maxRecDepth 20000 in
theorem ggX5_pass_X5_acts : GoodIn wsX5_pass wsX5_acts := goodIn_r _ [9, 10, 11, 1, 94, 95, 96, 97, 98] (by decide +kernel) (by decide +kernel)
set_option maxRecDepth 20000 in
theorem gX5_pass_X5_acts : GoodIn wsX5_pass (wsV RX5 95 RX5 yX5_acts wsX5_acts) := goodIn_app (goodIn_of _ (by decide +kernel)) ggX5_pass_X5_acts
set_option maxRecDepth 20000 in
theorem ggX5_pass_X5_ticks : GoodIn wsX5_pass wsX5_ticks := goodIn_r _ [15, 1, 16, 17, 18, 4, 19, 20, 21, 22, 23, 24, 25, 26, 27, 28, 29, 30, 31, 32, 33, 34, 35, 36, 37, 38, 39, 40, 41, 42, 43, 2, 3, 5, 44, 45, 46, 47, 48, 49, 50, 51, 52, 53, 54, 55, 56, 57, 58, 59, 60, 61, 62, 63, 64, 65, 66, 67, 68, 69, 70, 71, 72, 73, 74, 75, 76, 77, 78, 79, 80, 81, 82, 83, 84, 85, 86, 87, 88, 89, 94, 95, 96, 97, 98] (by decide +kernel) (by decide +kernel)
set_option maxRecDepth 20000 in
theorem gX5_pass_X5_ticks : GoodIn wsX5_pass (wsV RX5 113 RX5 yX5_ticks wsX5_ticks) := goodIn_app (goodIn_of _ (by decide +kernel)) ggX5_pass_X5_ticks
set_option maxRecDepth 20000 in
theorem ggX5_pass_X5_inAll : GoodIn wsX5_pass wsX5_inAll := goodIn_r _ [93, 1, 16, 17, 18, 4, 19, 94, 95, 96, 97, 98] (by decide +kernel) (by decide +kernel)
set_option maxRecDepth 20000 in
theorem gX5_pass_X5_inAll : GoodIn wsX5_pass (wsV RX5 104 RX5 yX5_inAll wsX5_inAll) := goodIn_app (goodIn_of _ (by decide +kernel)) ggX5_pass_X5_inAll
theorem dX5_pass_0 : decode cX5_pass 0 = .ok (.iload_n 1, 1) := by decide +kernel
theorem dX5_pass_1 : decode cX5_pass 1 = .ok (.iconst 1, 1) := by decide +kernel
theorem dX5_pass_2 : decode cX5_pass 2 = .ok (.sipush 200, 3) := by decide +kernel
theorem dX5_pass_5 : decode cX5_pass 5 = .ok (.invokestatic 26, 3) := by decide +kernel
theorem dX5_pass_8 : decode cX5_pass 8 = .ok (.ifCond .ne 5, 3) := by decide +kernel
theorem dX5_pass_11 : decode cX5_pass 11 = .ok (.iconst (-1), 1) := by decide +kernel
theorem dX5_pass_12 : decode cX5_pass 12 = .ok (.ireturn, 1) := by decide +kernel
theorem dX5_pass_13 : decode cX5_pass 13 = .ok (.aload_n 0, 1) := by decide +kernel
theorem dX5_pass_14 : decode cX5_pass 14 = .ok (.getfield 7, 3) := by decide +kernel
theorem dX5_pass_17 : decode cX5_pass 17 = .ok (.iconst 0, 1) := by decide +kernel
theorem dX5_pass_18 : decode cX5_pass 18 = .ok (.iaload, 1) := by decide +kernel
theorem dX5_pass_19 : decode cX5_pass 19 = .ok (.iload_n 1, 1) := by decide +kernel
theorem dX5_pass_20 : decode cX5_pass 20 = .ok (.iadd, 1) := by decide +kernel
theorem dX5_pass_21 : decode cX5_pass 21 = .ok (.sipush 20000, 3) := by decide +kernel
theorem dX5_pass_24 : decode cX5_pass 24 = .ok (.if_icmp .le 6, 3) := by decide +kernel
theorem dX5_pass_27 : decode cX5_pass 27 = .ok (.bipush (-2), 2) := by decide +kernel
theorem dX5_pass_29 : decode cX5_pass 29 = .ok (.ireturn, 1) := by decide +kernel
theorem dX5_pass_30 : decode cX5_pass 30 = .ok (.aload_n 0, 1) := by decide +kernel
theorem dX5_pass_31 : decode cX5_pass 31 = .ok (.invokevirtual 95, 3) := by decide +kernel
theorem dX5_pass_34 : decode cX5_pass 34 = .ok (.iconst 0, 1) := by decide +kernel
theorem dX5_pass_35 : decode cX5_pass 35 = .ok (.istore_n 2, 1) := by decide +kernel
theorem dX5_pass_36 : decode cX5_pass 36 = .ok (.iload_n 2, 1) := by decide +kernel
theorem dX5_pass_37 : decode cX5_pass 37 = .ok (.iload_n 1, 1) := by decide +kernel
theorem dX5_pass_38 : decode cX5_pass 38 = .ok (.if_icmp .ge 13, 3) := by decide +kernel
theorem dX5_pass_41 : decode cX5_pass 41 = .ok (.aload_n 0, 1) := by decide +kernel
theorem dX5_pass_42 : decode cX5_pass 42 = .ok (.invokevirtual 113, 3) := by decide +kernel
theorem dX5_pass_45 : decode cX5_pass 45 = .ok (.iinc 2 1, 3) := by decide +kernel
theorem dX5_pass_48 : decode cX5_pass 48 = .ok (.goto (-12), 3) := by decide +kernel
theorem dX5_pass_51 : decode cX5_pass 51 = .ok (.aload_n 0, 1) := by decide +kernel
theorem dX5_pass_52 : decode cX5_pass 52 = .ok (.iconst 3, 1) := by decide +kernel
theorem dX5_pass_53 : decode cX5_pass 53 = .ok (.invokevirtual 104, 3) := by decide +kernel
theorem dX5_pass_56 : decode cX5_pass 56 = .ok (.ireturn, 1) := by decide +kernel
theorem dX5_undo_0 : decode cX5_undo 0 = .ok (.aload_n 0, 1) := by decide +kernel
theorem dX5_undo_1 : decode cX5_undo 1 = .ok (.getfield 22, 3) := by decide +kernel
theorem dX5_undo_4 : decode cX5_undo 4 = .ok (.ifCond .ne 6, 3) := by decide +kernel
theorem dX5_undo_7 : decode cX5_undo 7 = .ok (.bipush (-2), 2) := by decide +kernel
theorem dX5_undo_9 : decode cX5_undo 9 = .ok (.ireturn, 1) := by decide +kernel
theorem dX5_undo_10 : decode cX5_undo 10 = .ok (.aload_n 0, 1) := by decide +kernel
theorem dX5_undo_11 : decode cX5_undo 11 = .ok (.dup, 1) := by decide +kernel
theorem dX5_undo_12 : decode cX5_undo 12 = .ok (.getfield 22, 3) := by decide +kernel
theorem dX5_undo_15 : decode cX5_undo 15 = .ok (.iconst 1, 1) := by decide +kernel
theorem dX5_undo_16 : decode cX5_undo 16 = .ok (.isub, 1) := by decide +kernel
theorem dX5_undo_17 : decode cX5_undo 17 = .ok (.putfield 22, 3) := by decide +kernel
theorem dX5_undo_20 : decode cX5_undo 20 = .ok (.iconst 0, 1) := by decide +kernel
theorem dX5_undo_21 : decode cX5_undo 21 = .ok (.istore_n 1, 1) := by decide +kernel
theorem dX5_undo_22 : decode cX5_undo 22 = .ok (.iload_n 1, 1) := by decide +kernel
theorem dX5_undo_23 : decode cX5_undo 23 = .ok (.sipush 378, 3) := by decide +kernel
theorem dX5_undo_26 : decode cX5_undo 26 = .ok (.if_icmp .ge 30, 3) := by decide +kernel
theorem dX5_undo_29 : decode cX5_undo 29 = .ok (.aload_n 0, 1) := by decide +kernel
theorem dX5_undo_30 : decode cX5_undo 30 = .ok (.getfield 7, 3) := by decide +kernel
theorem dX5_undo_33 : decode cX5_undo 33 = .ok (.iload_n 1, 1) := by decide +kernel
theorem dX5_undo_34 : decode cX5_undo 34 = .ok (.aload_n 0, 1) := by decide +kernel
theorem dX5_undo_35 : decode cX5_undo 35 = .ok (.getfield 13, 3) := by decide +kernel
theorem dX5_undo_38 : decode cX5_undo 38 = .ok (.sipush 378, 3) := by decide +kernel
theorem dX5_undo_41 : decode cX5_undo 41 = .ok (.aload_n 0, 1) := by decide +kernel
theorem dX5_undo_42 : decode cX5_undo 42 = .ok (.getfield 22, 3) := by decide +kernel
theorem dX5_undo_45 : decode cX5_undo 45 = .ok (.imul, 1) := by decide +kernel
theorem dX5_undo_46 : decode cX5_undo 46 = .ok (.iload_n 1, 1) := by decide +kernel
theorem dX5_undo_47 : decode cX5_undo 47 = .ok (.iadd, 1) := by decide +kernel
theorem dX5_undo_48 : decode cX5_undo 48 = .ok (.iaload, 1) := by decide +kernel
theorem dX5_undo_49 : decode cX5_undo 49 = .ok (.iastore, 1) := by decide +kernel
theorem dX5_undo_50 : decode cX5_undo 50 = .ok (.iinc 1 1, 3) := by decide +kernel
theorem dX5_undo_53 : decode cX5_undo 53 = .ok (.goto (-31), 3) := by decide +kernel
theorem dX5_undo_56 : decode cX5_undo 56 = .ok (.aload_n 0, 1) := by decide +kernel
theorem dX5_undo_57 : decode cX5_undo 57 = .ok (.getfield 22, 3) := by decide +kernel
theorem dX5_undo_60 : decode cX5_undo 60 = .ok (.ireturn, 1) := by decide +kernel
set_option maxRecDepth 20000 in
theorem ggX5_isOpen_X5_ofCaller : GoodIn wsX5_isOpen wsX5_ofCaller := goodIn_r _ [5, 6, 7, 8, 9, 10, 11] (by decide +kernel) (by decide +kernel)
set_option maxRecDepth 20000 in
theorem gX5_isOpen_X5_ofCaller : GoodIn wsX5_isOpen (wsV RX5 34 RX5 yX5_ofCaller wsX5_ofCaller) := goodIn_app (goodIn_of _ (by decide +kernel)) ggX5_isOpen_X5_ofCaller
theorem dX5_isOpen_0 : decode cX5_isOpen 0 = .ok (.aload_n 0, 1) := by decide +kernel
theorem dX5_isOpen_1 : decode cX5_isOpen 1 = .ok (.iload_n 1, 1) := by decide +kernel
theorem dX5_isOpen_2 : decode cX5_isOpen 2 = .ok (.iconst 2, 1) := by decide +kernel
theorem dX5_isOpen_3 : decode cX5_isOpen 3 = .ok (.invokevirtual 34, 3) := by decide +kernel
theorem dX5_isOpen_6 : decode cX5_isOpen 6 = .ok (.iconst 1, 1) := by decide +kernel
theorem dX5_isOpen_7 : decode cX5_isOpen 7 = .ok (.if_icmp .gt 7, 3) := by decide +kernel
theorem dX5_isOpen_10 : decode cX5_isOpen 10 = .ok (.iconst 1, 1) := by decide +kernel
theorem dX5_isOpen_11 : decode cX5_isOpen 11 = .ok (.goto 4, 3) := by decide +kernel
theorem dX5_isOpen_14 : decode cX5_isOpen 14 = .ok (.iconst 0, 1) := by decide +kernel
theorem dX5_isOpen_15 : decode cX5_isOpen 15 = .ok (.ireturn, 1) := by decide +kernel
set_option maxRecDepth 20000 in
theorem ggX5_isFirst_X5_isOpen : GoodIn wsX5_isFirst wsX5_isOpen := goodIn_r _ [5, 6, 7, 8, 4, 9, 10, 15, 16, 17, 18, 19] (by decide +kernel) (by decide +kernel)
set_option maxRecDepth 20000 in
theorem gX5_isFirst_X5_isOpen : GoodIn wsX5_isFirst (wsV RX5 116 RX5 yX5_isOpen wsX5_isOpen) := goodIn_app (goodIn_of _ (by decide +kernel)) ggX5_isFirst_X5_isOpen
set_option maxRecDepth 20000 in
theorem ggX5_isFirst_X5_areOne : GoodIn wsX5_isFirst wsX5_areOne := goodIn_r _ [14, 6, 7, 8, 4, 9, 10, 15, 16, 17, 18, 19] (by decide +kernel) (by decide +kernel)
set_option maxRecDepth 20000 in
theorem gX5_isFirst_X5_areOne : GoodIn wsX5_isFirst (wsV RX5 119 RX5 yX5_areOne wsX5_areOne) := goodIn_app (goodIn_of _ (by decide +kernel)) ggX5_isFirst_X5_areOne
theorem dX5_isFirst_0 : decode cX5_isFirst 0 = .ok (.aload_n 0, 1) := by decide +kernel
theorem dX5_isFirst_1 : decode cX5_isFirst 1 = .ok (.iload_n 1, 1) := by decide +kernel
theorem dX5_isFirst_2 : decode cX5_isFirst 2 = .ok (.invokevirtual 116, 3) := by decide +kernel
theorem dX5_isFirst_5 : decode cX5_isFirst 5 = .ok (.istore_n 2, 1) := by decide +kernel
theorem dX5_isFirst_6 : decode cX5_isFirst 6 = .ok (.iconst 0, 1) := by decide +kernel
theorem dX5_isFirst_7 : decode cX5_isFirst 7 = .ok (.istore_n 3, 1) := by decide +kernel
theorem dX5_isFirst_8 : decode cX5_isFirst 8 = .ok (.iload_n 3, 1) := by decide +kernel
theorem dX5_isFirst_9 : decode cX5_isFirst 9 = .ok (.iload_n 1, 1) := by decide +kernel
theorem dX5_isFirst_10 : decode cX5_isFirst 10 = .ok (.if_icmp .ge 36, 3) := by decide +kernel
theorem dX5_isFirst_13 : decode cX5_isFirst 13 = .ok (.iload_n 2, 1) := by decide +kernel
theorem dX5_isFirst_14 : decode cX5_isFirst 14 = .ok (.ifCond .eq 32, 3) := by decide +kernel
theorem dX5_isFirst_17 : decode cX5_isFirst 17 = .ok (.aload_n 0, 1) := by decide +kernel
theorem dX5_isFirst_18 : decode cX5_isFirst 18 = .ok (.iload_n 3, 1) := by decide +kernel
theorem dX5_isFirst_19 : decode cX5_isFirst 19 = .ok (.invokevirtual 116, 3) := by decide +kernel
theorem dX5_isFirst_22 : decode cX5_isFirst 22 = .ok (.ifCond .eq 12, 3) := by decide +kernel
theorem dX5_isFirst_25 : decode cX5_isFirst 25 = .ok (.aload_n 0, 1) := by decide +kernel
theorem dX5_isFirst_26 : decode cX5_isFirst 26 = .ok (.iload_n 3, 1) := by decide +kernel
theorem dX5_isFirst_27 : decode cX5_isFirst 27 = .ok (.iload_n 1, 1) := by decide +kernel
theorem dX5_isFirst_28 : decode cX5_isFirst 28 = .ok (.invokevirtual 119, 3) := by decide +kernel
theorem dX5_isFirst_31 : decode cX5_isFirst 31 = .ok (.ifCond .ne 7, 3) := by decide +kernel
theorem dX5_isFirst_34 : decode cX5_isFirst 34 = .ok (.iconst 1, 1) := by decide +kernel
theorem dX5_isFirst_35 : decode cX5_isFirst 35 = .ok (.goto 4, 3) := by decide +kernel
theorem dX5_isFirst_38 : decode cX5_isFirst 38 = .ok (.iconst 0, 1) := by decide +kernel
theorem dX5_isFirst_39 : decode cX5_isFirst 39 = .ok (.istore_n 2, 1) := by decide +kernel
theorem dX5_isFirst_40 : decode cX5_isFirst 40 = .ok (.iinc 3 1, 3) := by decide +kernel
theorem dX5_isFirst_43 : decode cX5_isFirst 43 = .ok (.goto (-35), 3) := by decide +kernel
theorem dX5_isFirst_46 : decode cX5_isFirst 46 = .ok (.iload_n 2, 1) := by decide +kernel
theorem dX5_isFirst_47 : decode cX5_isFirst 47 = .ok (.ireturn, 1) := by decide +kernel
set_option maxRecDepth 20000 in
theorem ggX5_areOne_X5_ofCaller : GoodIn wsX5_areOne wsX5_ofCaller := goodIn_r _ [5, 6, 7, 8, 9, 10, 11] (by decide +kernel) (by decide +kernel)
set_option maxRecDepth 20000 in
theorem gX5_areOne_X5_ofCaller : GoodIn wsX5_areOne (wsV RX5 34 RX5 yX5_ofCaller wsX5_ofCaller) := goodIn_app (goodIn_of _ (by decide +kernel)) ggX5_areOne_X5_ofCaller
theorem dX5_areOne_0 : decode cX5_areOne 0 = .ok (.aload_n 0, 1) := by decide +kernel
theorem dX5_areOne_1 : decode cX5_areOne 1 = .ok (.iload_n 1, 1) := by decide +kernel
theorem dX5_areOne_2 : decode cX5_areOne 2 = .ok (.iconst 0, 1) := by decide +kernel
theorem dX5_areOne_3 : decode cX5_areOne 3 = .ok (.invokevirtual 34, 3) := by decide +kernel
theorem dX5_areOne_6 : decode cX5_areOne 6 = .ok (.aload_n 0, 1) := by decide +kernel
theorem dX5_areOne_7 : decode cX5_areOne 7 = .ok (.iload_n 2, 1) := by decide +kernel
theorem dX5_areOne_8 : decode cX5_areOne 8 = .ok (.iconst 0, 1) := by decide +kernel
theorem dX5_areOne_9 : decode cX5_areOne 9 = .ok (.invokevirtual 34, 3) := by decide +kernel
theorem dX5_areOne_12 : decode cX5_areOne 12 = .ok (.if_icmp .ne 22, 3) := by decide +kernel
theorem dX5_areOne_15 : decode cX5_areOne 15 = .ok (.aload_n 0, 1) := by decide +kernel
theorem dX5_areOne_16 : decode cX5_areOne 16 = .ok (.iload_n 1, 1) := by decide +kernel
theorem dX5_areOne_17 : decode cX5_areOne 17 = .ok (.iconst 1, 1) := by decide +kernel
theorem dX5_areOne_18 : decode cX5_areOne 18 = .ok (.invokevirtual 34, 3) := by decide +kernel
theorem dX5_areOne_21 : decode cX5_areOne 21 = .ok (.aload_n 0, 1) := by decide +kernel
theorem dX5_areOne_22 : decode cX5_areOne 22 = .ok (.iload_n 2, 1) := by decide +kernel
theorem dX5_areOne_23 : decode cX5_areOne 23 = .ok (.iconst 1, 1) := by decide +kernel
theorem dX5_areOne_24 : decode cX5_areOne 24 = .ok (.invokevirtual 34, 3) := by decide +kernel
theorem dX5_areOne_27 : decode cX5_areOne 27 = .ok (.if_icmp .ne 7, 3) := by decide +kernel
theorem dX5_areOne_30 : decode cX5_areOne 30 = .ok (.iconst 1, 1) := by decide +kernel
theorem dX5_areOne_31 : decode cX5_areOne 31 = .ok (.goto 4, 3) := by decide +kernel
theorem dX5_areOne_34 : decode cX5_areOne 34 = .ok (.iconst 0, 1) := by decide +kernel
theorem dX5_areOne_35 : decode cX5_areOne 35 = .ok (.ireturn, 1) := by decide +kernel
set_option maxRecDepth 20000 in
theorem ggX5_groups_X5_isFirst : GoodIn wsX5_groups wsX5_isFirst := goodIn_r _ [6, 7, 8, 9, 5, 10, 11, 12, 13, 14, 1, 15, 16, 17, 18, 19, 20, 21, 22, 23] (by decide +kernel) (by decide +kernel)
set_option maxRecDepth 20000 in
theorem gX5_groups_X5_isFirst : GoodIn wsX5_groups (wsV RX5 122 RX5 yX5_isFirst wsX5_isFirst) := goodIn_app (goodIn_of _ (by decide +kernel)) ggX5_groups_X5_isFirst
theorem dX5_groups_0 : decode cX5_groups 0 = .ok (.iconst 0, 1) := by decide +kernel
theorem dX5_groups_1 : decode cX5_groups 1 = .ok (.istore_n 1, 1) := by decide +kernel
theorem dX5_groups_2 : decode cX5_groups 2 = .ok (.iconst 0, 1) := by decide +kernel
theorem dX5_groups_3 : decode cX5_groups 3 = .ok (.istore_n 2, 1) := by decide +kernel
theorem dX5_groups_4 : decode cX5_groups 4 = .ok (.iload_n 2, 1) := by decide +kernel
theorem dX5_groups_5 : decode cX5_groups 5 = .ok (.aload_n 0, 1) := by decide +kernel
theorem dX5_groups_6 : decode cX5_groups 6 = .ok (.getfield 7, 3) := by decide +kernel
theorem dX5_groups_9 : decode cX5_groups 9 = .ok (.iconst 2, 1) := by decide +kernel
theorem dX5_groups_10 : decode cX5_groups 10 = .ok (.iaload, 1) := by decide +kernel
theorem dX5_groups_11 : decode cX5_groups 11 = .ok (.if_icmp .ge 25, 3) := by decide +kernel
theorem dX5_groups_14 : decode cX5_groups 14 = .ok (.iload_n 1, 1) := by decide +kernel
theorem dX5_groups_15 : decode cX5_groups 15 = .ok (.aload_n 0, 1) := by decide +kernel
theorem dX5_groups_16 : decode cX5_groups 16 = .ok (.iload_n 2, 1) := by decide +kernel
theorem dX5_groups_17 : decode cX5_groups 17 = .ok (.invokevirtual 122, 3) := by decide +kernel
theorem dX5_groups_20 : decode cX5_groups 20 = .ok (.ifCond .eq 7, 3) := by decide +kernel
theorem dX5_groups_23 : decode cX5_groups 23 = .ok (.iconst 1, 1) := by decide +kernel
theorem dX5_groups_24 : decode cX5_groups 24 = .ok (.goto 4, 3) := by decide +kernel
theorem dX5_groups_27 : decode cX5_groups 27 = .ok (.iconst 0, 1) := by decide +kernel
theorem dX5_groups_28 : decode cX5_groups 28 = .ok (.iadd, 1) := by decide +kernel
theorem dX5_groups_29 : decode cX5_groups 29 = .ok (.istore_n 1, 1) := by decide +kernel
theorem dX5_groups_30 : decode cX5_groups 30 = .ok (.iinc 2 1, 3) := by decide +kernel
theorem dX5_groups_33 : decode cX5_groups 33 = .ok (.goto (-29), 3) := by decide +kernel
theorem dX5_groups_36 : decode cX5_groups 36 = .ok (.iload_n 1, 1) := by decide +kernel
theorem dX5_groups_37 : decode cX5_groups 37 = .ok (.ireturn, 1) := by decide +kernel
set_option maxRecDepth 20000 in
theorem ggX5_sumOfCars_X5_ofCar : GoodIn wsX5_sumOfCars wsX5_ofCar := goodIn_r _ [6, 1, 7, 8, 9, 10, 11] (by decide +kernel) (by decide +kernel)
set_option maxRecDepth 20000 in
theorem gX5_sumOfCars_X5_ofCar : GoodIn wsX5_sumOfCars (wsV RX5 38 RX5 yX5_ofCar wsX5_ofCar) := goodIn_app (goodIn_of _ (by decide +kernel)) ggX5_sumOfCars_X5_ofCar
theorem dX5_sumOfCars_0 : decode cX5_sumOfCars 0 = .ok (.iconst 0, 1) := by decide +kernel
theorem dX5_sumOfCars_1 : decode cX5_sumOfCars 1 = .ok (.istore_n 3, 1) := by decide +kernel
theorem dX5_sumOfCars_2 : decode cX5_sumOfCars 2 = .ok (.iconst 0, 1) := by decide +kernel
theorem dX5_sumOfCars_3 : decode cX5_sumOfCars 3 = .ok (.istore 4, 2) := by decide +kernel
theorem dX5_sumOfCars_5 : decode cX5_sumOfCars 5 = .ok (.iload 4, 2) := by decide +kernel
theorem dX5_sumOfCars_7 : decode cX5_sumOfCars 7 = .ok (.aload_n 0, 1) := by decide +kernel
theorem dX5_sumOfCars_8 : decode cX5_sumOfCars 8 = .ok (.getfield 7, 3) := by decide +kernel
theorem dX5_sumOfCars_11 : decode cX5_sumOfCars 11 = .ok (.iconst 1, 1) := by decide +kernel
theorem dX5_sumOfCars_12 : decode cX5_sumOfCars 12 = .ok (.iaload, 1) := by decide +kernel
theorem dX5_sumOfCars_13 : decode cX5_sumOfCars 13 = .ok (.if_icmp .ge 43, 3) := by decide +kernel
theorem dX5_sumOfCars_16 : decode cX5_sumOfCars 16 = .ok (.iload_n 3, 1) := by decide +kernel
theorem dX5_sumOfCars_17 : decode cX5_sumOfCars 17 = .ok (.iload_n 1, 1) := by decide +kernel
theorem dX5_sumOfCars_18 : decode cX5_sumOfCars 18 = .ok (.iconst 5, 1) := by decide +kernel
theorem dX5_sumOfCars_19 : decode cX5_sumOfCars 19 = .ok (.if_icmp .ne 13, 3) := by decide +kernel
theorem dX5_sumOfCars_22 : decode cX5_sumOfCars 22 = .ok (.aload_n 0, 1) := by decide +kernel
theorem dX5_sumOfCars_23 : decode cX5_sumOfCars 23 = .ok (.iload 4, 2) := by decide +kernel
theorem dX5_sumOfCars_25 : decode cX5_sumOfCars 25 = .ok (.iconst 5, 1) := by decide +kernel
theorem dX5_sumOfCars_26 : decode cX5_sumOfCars 26 = .ok (.invokevirtual 38, 3) := by decide +kernel
theorem dX5_sumOfCars_29 : decode cX5_sumOfCars 29 = .ok (.goto 19, 3) := by decide +kernel
theorem dX5_sumOfCars_32 : decode cX5_sumOfCars 32 = .ok (.aload_n 0, 1) := by decide +kernel
theorem dX5_sumOfCars_33 : decode cX5_sumOfCars 33 = .ok (.iload 4, 2) := by decide +kernel
theorem dX5_sumOfCars_35 : decode cX5_sumOfCars 35 = .ok (.iload_n 1, 1) := by decide +kernel
theorem dX5_sumOfCars_36 : decode cX5_sumOfCars 36 = .ok (.invokevirtual 38, 3) := by decide +kernel
theorem dX5_sumOfCars_39 : decode cX5_sumOfCars 39 = .ok (.iload_n 2, 1) := by decide +kernel
theorem dX5_sumOfCars_40 : decode cX5_sumOfCars 40 = .ok (.if_icmp .ne 7, 3) := by decide +kernel
theorem dX5_sumOfCars_43 : decode cX5_sumOfCars 43 = .ok (.iconst 1, 1) := by decide +kernel
theorem dX5_sumOfCars_44 : decode cX5_sumOfCars 44 = .ok (.goto 4, 3) := by decide +kernel
theorem dX5_sumOfCars_47 : decode cX5_sumOfCars 47 = .ok (.iconst 0, 1) := by decide +kernel
theorem dX5_sumOfCars_48 : decode cX5_sumOfCars 48 = .ok (.iadd, 1) := by decide +kernel
theorem dX5_sumOfCars_49 : decode cX5_sumOfCars 49 = .ok (.istore_n 3, 1) := by decide +kernel
theorem dX5_sumOfCars_50 : decode cX5_sumOfCars 50 = .ok (.iinc 4 1, 3) := by decide +kernel
theorem dX5_sumOfCars_53 : decode cX5_sumOfCars 53 = .ok (.goto (-48), 3) := by decide +kernel
theorem dX5_sumOfCars_56 : decode cX5_sumOfCars 56 = .ok (.iload_n 3, 1) := by decide +kernel
theorem dX5_sumOfCars_57 : decode cX5_sumOfCars 57 = .ok (.ireturn, 1) := by decide +kernel
set_option maxRecDepth 20000 in
theorem ggX5_count_X5_hour : GoodIn wsX5_count wsX5_hour := goodIn_r _ [7, 1, 40, 41, 42, 43, 44] (by decide +kernel) (by decide +kernel)
set_option maxRecDepth 20000 in
theorem gX5_count_X5_hour : GoodIn wsX5_count (wsV RX5 30 RX5 yX5_hour wsX5_hour) := goodIn_app (goodIn_of _ (by decide +kernel)) ggX5_count_X5_hour
set_option maxRecDepth 20000 in
theorem ggX5_count_X5_inAll : GoodIn wsX5_count wsX5_inAll := goodIn_r _ [11, 1, 12, 13, 14, 6, 15, 40, 41, 42, 43, 44] (by decide +kernel) (by decide +kernel)
set_option maxRecDepth 20000 in
theorem gX5_count_X5_inAll : GoodIn wsX5_count (wsV RX5 104 RX5 yX5_inAll wsX5_inAll) := goodIn_app (goodIn_of _ (by decide +kernel)) ggX5_count_X5_inAll
set_option maxRecDepth 20000 in
theorem ggX5_count_X5_groups : GoodIn wsX5_count wsX5_groups := goodIn_r _ [19, 1, 20, 21, 22, 6, 23, 24, 25, 26, 27, 12, 13, 14, 15, 28, 29, 30, 31, 40, 41, 42, 43, 44] (by decide +kernel) (by decide +kernel)
set_option maxRecDepth 20000 in
theorem gX5_count_X5_groups : GoodIn wsX5_count (wsV RX5 125 RX5 yX5_groups wsX5_groups) := goodIn_app (goodIn_of _ (by decide +kernel)) ggX5_count_X5_groups
set_option maxRecDepth 20000 in
theorem ggX5_count_X5_sumOfCars : GoodIn wsX5_count wsX5_sumOfCars := goodIn_r _ [35, 1, 36, 37, 38, 6, 39, 40, 41, 42, 43, 44] (by decide +kernel) (by decide +kernel)
set_option maxRecDepth 20000 in
theorem gX5_count_X5_sumOfCars : GoodIn wsX5_count (wsV RX5 128 RX5 yX5_sumOfCars wsX5_sumOfCars) := goodIn_app (goodIn_of _ (by decide +kernel)) ggX5_count_X5_sumOfCars
theorem dX5_count_0 : decode cX5_count 0 = .ok (.iload_n 1, 1) := by decide +kernel
theorem dX5_count_1 : decode cX5_count 1 = .ok (.tableswitch 143 0 13 #[71, 78, 83, 90, 97, 97, 97, 97, 105, 110, 117, 124, 131, 138], 71) := by decide +kernel
theorem dX5_count_72 : decode cX5_count 72 = .ok (.aload_n 0, 1) := by decide +kernel
theorem dX5_count_73 : decode cX5_count 73 = .ok (.getfield 7, 3) := by decide +kernel
theorem dX5_count_76 : decode cX5_count 76 = .ok (.iconst 0, 1) := by decide +kernel
theorem dX5_count_77 : decode cX5_count 77 = .ok (.iaload, 1) := by decide +kernel
theorem dX5_count_78 : decode cX5_count 78 = .ok (.ireturn, 1) := by decide +kernel
theorem dX5_count_79 : decode cX5_count 79 = .ok (.aload_n 0, 1) := by decide +kernel
theorem dX5_count_80 : decode cX5_count 80 = .ok (.invokevirtual 30, 3) := by decide +kernel
theorem dX5_count_83 : decode cX5_count 83 = .ok (.ireturn, 1) := by decide +kernel
theorem dX5_count_84 : decode cX5_count 84 = .ok (.aload_n 0, 1) := by decide +kernel
theorem dX5_count_85 : decode cX5_count 85 = .ok (.getfield 7, 3) := by decide +kernel
theorem dX5_count_88 : decode cX5_count 88 = .ok (.iconst 1, 1) := by decide +kernel
theorem dX5_count_89 : decode cX5_count 89 = .ok (.iaload, 1) := by decide +kernel
theorem dX5_count_90 : decode cX5_count 90 = .ok (.ireturn, 1) := by decide +kernel
theorem dX5_count_91 : decode cX5_count 91 = .ok (.aload_n 0, 1) := by decide +kernel
theorem dX5_count_92 : decode cX5_count 92 = .ok (.getfield 7, 3) := by decide +kernel
theorem dX5_count_95 : decode cX5_count 95 = .ok (.iconst 2, 1) := by decide +kernel
theorem dX5_count_96 : decode cX5_count 96 = .ok (.iaload, 1) := by decide +kernel
theorem dX5_count_97 : decode cX5_count 97 = .ok (.ireturn, 1) := by decide +kernel
theorem dX5_count_98 : decode cX5_count 98 = .ok (.aload_n 0, 1) := by decide +kernel
theorem dX5_count_99 : decode cX5_count 99 = .ok (.iload_n 1, 1) := by decide +kernel
theorem dX5_count_100 : decode cX5_count 100 = .ok (.iconst 4, 1) := by decide +kernel
theorem dX5_count_101 : decode cX5_count 101 = .ok (.isub, 1) := by decide +kernel
theorem dX5_count_102 : decode cX5_count 102 = .ok (.invokevirtual 104, 3) := by decide +kernel
theorem dX5_count_105 : decode cX5_count 105 = .ok (.ireturn, 1) := by decide +kernel
theorem dX5_count_106 : decode cX5_count 106 = .ok (.aload_n 0, 1) := by decide +kernel
theorem dX5_count_107 : decode cX5_count 107 = .ok (.invokevirtual 125, 3) := by decide +kernel
theorem dX5_count_110 : decode cX5_count 110 = .ok (.ireturn, 1) := by decide +kernel
theorem dX5_count_111 : decode cX5_count 111 = .ok (.aload_n 0, 1) := by decide +kernel
theorem dX5_count_112 : decode cX5_count 112 = .ok (.iconst 5, 1) := by decide +kernel
theorem dX5_count_113 : decode cX5_count 113 = .ok (.iconst 0, 1) := by decide +kernel
theorem dX5_count_114 : decode cX5_count 114 = .ok (.invokevirtual 128, 3) := by decide +kernel
theorem dX5_count_117 : decode cX5_count 117 = .ok (.ireturn, 1) := by decide +kernel
theorem dX5_count_118 : decode cX5_count 118 = .ok (.aload_n 0, 1) := by decide +kernel
theorem dX5_count_119 : decode cX5_count 119 = .ok (.getfield 7, 3) := by decide +kernel
theorem dX5_count_122 : decode cX5_count 122 = .ok (.iconst 3, 1) := by decide +kernel
theorem dX5_count_123 : decode cX5_count 123 = .ok (.iaload, 1) := by decide +kernel
theorem dX5_count_124 : decode cX5_count 124 = .ok (.ireturn, 1) := by decide +kernel
theorem dX5_count_125 : decode cX5_count 125 = .ok (.aload_n 0, 1) := by decide +kernel
theorem dX5_count_126 : decode cX5_count 126 = .ok (.iconst 4, 1) := by decide +kernel
theorem dX5_count_127 : decode cX5_count 127 = .ok (.iconst 1, 1) := by decide +kernel
theorem dX5_count_128 : decode cX5_count 128 = .ok (.invokevirtual 128, 3) := by decide +kernel
theorem dX5_count_131 : decode cX5_count 131 = .ok (.ireturn, 1) := by decide +kernel
theorem dX5_count_132 : decode cX5_count 132 = .ok (.aload_n 0, 1) := by decide +kernel
theorem dX5_count_133 : decode cX5_count 133 = .ok (.iconst 4, 1) := by decide +kernel
theorem dX5_count_134 : decode cX5_count 134 = .ok (.iconst 2, 1) := by decide +kernel
theorem dX5_count_135 : decode cX5_count 135 = .ok (.invokevirtual 128, 3) := by decide +kernel
theorem dX5_count_138 : decode cX5_count 138 = .ok (.ireturn, 1) := by decide +kernel
theorem dX5_count_139 : decode cX5_count 139 = .ok (.aload_n 0, 1) := by decide +kernel
theorem dX5_count_140 : decode cX5_count 140 = .ok (.getfield 22, 3) := by decide +kernel
theorem dX5_count_143 : decode cX5_count 143 = .ok (.ireturn, 1) := by decide +kernel
theorem dX5_count_144 : decode cX5_count 144 = .ok (.iconst (-1), 1) := by decide +kernel
theorem dX5_count_145 : decode cX5_count 145 = .ok (.ireturn, 1) := by decide +kernel
set_option maxRecDepth 20000 in
theorem ggX5_car_X5_isCar : GoodIn wsX5_car wsX5_isCar := goodIn_r _ [5, 6, 44, 45, 46, 47, 48] (by decide +kernel) (by decide +kernel)
set_option maxRecDepth 20000 in
theorem gX5_car_X5_isCar : GoodIn wsX5_car (wsV RX5 98 RX5 yX5_isCar wsX5_isCar) := goodIn_app (goodIn_of _ (by decide +kernel)) ggX5_car_X5_isCar
set_option maxRecDepth 20000 in
theorem ggX5_car_X5_ofCar : GoodIn wsX5_car wsX5_ofCar := goodIn_r _ [10, 6, 44, 45, 46, 47, 48] (by decide +kernel) (by decide +kernel)
set_option maxRecDepth 20000 in
theorem gX5_car_X5_ofCar : GoodIn wsX5_car (wsV RX5 38 RX5 yX5_ofCar wsX5_ofCar) := goodIn_app (goodIn_of _ (by decide +kernel)) ggX5_car_X5_ofCar
set_option maxRecDepth 20000 in
theorem ggX5_car_X5_many : GoodIn wsX5_car wsX5_many := goodIn_r _ [14, 6, 15, 16, 17, 4, 18, 44, 45, 46, 47, 48] (by decide +kernel) (by decide +kernel)
set_option maxRecDepth 20000 in
theorem gX5_car_X5_many : GoodIn wsX5_car (wsV RX5 55 RX5 yX5_many wsX5_many) := goodIn_app (goodIn_of _ (by decide +kernel)) ggX5_car_X5_many
set_option maxRecDepth 20000 in
theorem ggX5_car_X5_stops : GoodIn wsX5_car wsX5_stops := goodIn_r _ [22, 6, 15, 16, 17, 4, 18, 23, 24, 25, 44, 45, 46, 47, 48] (by decide +kernel) (by decide +kernel)
set_option maxRecDepth 20000 in
theorem gX5_car_X5_stops : GoodIn wsX5_car (wsV RX5 45 RX5 yX5_stops wsX5_stops) := goodIn_app (goodIn_of _ (by decide +kernel)) ggX5_car_X5_stops
set_option maxRecDepth 20000 in
theorem ggX5_car_X5_ones : GoodIn wsX5_car wsX5_ones := goodIn_r _ [28] (by decide +kernel) (by decide +kernel)
set_option maxRecDepth 20000 in
theorem gX5_car_X5_ones : GoodIn wsX5_car (va_wsS RX5 49 yX5_ones wsX5_ones) := goodIn_app (goodIn_of _ (by decide +kernel)) ggX5_car_X5_ones
set_option maxRecDepth 20000 in
theorem ggX5_car_X5_aim : GoodIn wsX5_car wsX5_aim := goodIn_r _ [32, 6, 7, 8, 9, 4, 10, 15, 16, 17, 18, 33, 34, 35, 44, 45, 46, 47, 48] (by decide +kernel) (by decide +kernel)
set_option maxRecDepth 20000 in
theorem gX5_car_X5_aim : GoodIn wsX5_car (wsV RX5 83 RX5 yX5_aim wsX5_aim) := goodIn_app (goodIn_of _ (by decide +kernel)) ggX5_car_X5_aim
set_option maxRecDepth 20000 in
theorem ggX5_car_X5_isAwake : GoodIn wsX5_car wsX5_isAwake := goodIn_r _ [39, 6, 40, 41, 42, 4, 43, 44, 45, 46, 47, 48] (by decide +kernel) (by decide +kernel)
set_option maxRecDepth 20000 in
theorem gX5_car_X5_isAwake : GoodIn wsX5_car (wsV RX5 41 RX5 yX5_isAwake wsX5_isAwake) := goodIn_app (goodIn_of _ (by decide +kernel)) ggX5_car_X5_isAwake
theorem dX5_car_0 : decode cX5_car 0 = .ok (.aload_n 0, 1) := by decide +kernel
theorem dX5_car_1 : decode cX5_car 1 = .ok (.iload_n 1, 1) := by decide +kernel
theorem dX5_car_2 : decode cX5_car 2 = .ok (.invokevirtual 98, 3) := by decide +kernel
theorem dX5_car_5 : decode cX5_car 5 = .ok (.ifCond .ne 5, 3) := by decide +kernel
theorem dX5_car_8 : decode cX5_car 8 = .ok (.iconst (-1), 1) := by decide +kernel
theorem dX5_car_9 : decode cX5_car 9 = .ok (.ireturn, 1) := by decide +kernel
theorem dX5_car_10 : decode cX5_car 10 = .ok (.iload_n 2, 1) := by decide +kernel
theorem dX5_car_11 : decode cX5_car 11 = .ok (.tableswitch 109 0 7 #[45, 52, 59, 66, 73, 82, 88, 95], 45) := by decide +kernel
theorem dX5_car_56 : decode cX5_car 56 = .ok (.aload_n 0, 1) := by decide +kernel
theorem dX5_car_57 : decode cX5_car 57 = .ok (.iload_n 1, 1) := by decide +kernel
theorem dX5_car_58 : decode cX5_car 58 = .ok (.iconst 3, 1) := by decide +kernel
theorem dX5_car_59 : decode cX5_car 59 = .ok (.invokevirtual 38, 3) := by decide +kernel
theorem dX5_car_62 : decode cX5_car 62 = .ok (.ireturn, 1) := by decide +kernel
theorem dX5_car_63 : decode cX5_car 63 = .ok (.aload_n 0, 1) := by decide +kernel
theorem dX5_car_64 : decode cX5_car 64 = .ok (.iload_n 1, 1) := by decide +kernel
theorem dX5_car_65 : decode cX5_car 65 = .ok (.iconst 4, 1) := by decide +kernel
theorem dX5_car_66 : decode cX5_car 66 = .ok (.invokevirtual 38, 3) := by decide +kernel
theorem dX5_car_69 : decode cX5_car 69 = .ok (.ireturn, 1) := by decide +kernel
theorem dX5_car_70 : decode cX5_car 70 = .ok (.aload_n 0, 1) := by decide +kernel
theorem dX5_car_71 : decode cX5_car 71 = .ok (.iload_n 1, 1) := by decide +kernel
theorem dX5_car_72 : decode cX5_car 72 = .ok (.iconst 2, 1) := by decide +kernel
theorem dX5_car_73 : decode cX5_car 73 = .ok (.invokevirtual 55, 3) := by decide +kernel
theorem dX5_car_76 : decode cX5_car 76 = .ok (.ireturn, 1) := by decide +kernel
theorem dX5_car_77 : decode cX5_car 77 = .ok (.aload_n 0, 1) := by decide +kernel
theorem dX5_car_78 : decode cX5_car 78 = .ok (.iload_n 1, 1) := by decide +kernel
theorem dX5_car_79 : decode cX5_car 79 = .ok (.iconst 1, 1) := by decide +kernel
theorem dX5_car_80 : decode cX5_car 80 = .ok (.invokevirtual 55, 3) := by decide +kernel
theorem dX5_car_83 : decode cX5_car 83 = .ok (.ireturn, 1) := by decide +kernel
theorem dX5_car_84 : decode cX5_car 84 = .ok (.aload_n 0, 1) := by decide +kernel
theorem dX5_car_85 : decode cX5_car 85 = .ok (.iload_n 1, 1) := by decide +kernel
theorem dX5_car_86 : decode cX5_car 86 = .ok (.invokevirtual 45, 3) := by decide +kernel
theorem dX5_car_89 : decode cX5_car 89 = .ok (.invokestatic 49, 3) := by decide +kernel
theorem dX5_car_92 : decode cX5_car 92 = .ok (.ireturn, 1) := by decide +kernel
theorem dX5_car_93 : decode cX5_car 93 = .ok (.aload_n 0, 1) := by decide +kernel
theorem dX5_car_94 : decode cX5_car 94 = .ok (.iload_n 1, 1) := by decide +kernel
theorem dX5_car_95 : decode cX5_car 95 = .ok (.invokevirtual 83, 3) := by decide +kernel
theorem dX5_car_98 : decode cX5_car 98 = .ok (.ireturn, 1) := by decide +kernel
theorem dX5_car_99 : decode cX5_car 99 = .ok (.aload_n 0, 1) := by decide +kernel
theorem dX5_car_100 : decode cX5_car 100 = .ok (.iload_n 1, 1) := by decide +kernel
theorem dX5_car_101 : decode cX5_car 101 = .ok (.iconst 5, 1) := by decide +kernel
theorem dX5_car_102 : decode cX5_car 102 = .ok (.invokevirtual 38, 3) := by decide +kernel
theorem dX5_car_105 : decode cX5_car 105 = .ok (.ireturn, 1) := by decide +kernel
theorem dX5_car_106 : decode cX5_car 106 = .ok (.aload_n 0, 1) := by decide +kernel
theorem dX5_car_107 : decode cX5_car 107 = .ok (.iload_n 1, 1) := by decide +kernel
theorem dX5_car_108 : decode cX5_car 108 = .ok (.invokevirtual 41, 3) := by decide +kernel
theorem dX5_car_111 : decode cX5_car 111 = .ok (.ifCond .eq 7, 3) := by decide +kernel
theorem dX5_car_114 : decode cX5_car 114 = .ok (.iconst 1, 1) := by decide +kernel
theorem dX5_car_115 : decode cX5_car 115 = .ok (.goto 4, 3) := by decide +kernel
theorem dX5_car_118 : decode cX5_car 118 = .ok (.iconst 0, 1) := by decide +kernel
theorem dX5_car_119 : decode cX5_car 119 = .ok (.ireturn, 1) := by decide +kernel
theorem dX5_car_120 : decode cX5_car 120 = .ok (.iconst (-1), 1) := by decide +kernel
theorem dX5_car_121 : decode cX5_car 121 = .ok (.ireturn, 1) := by decide +kernel
set_option maxRecDepth 20000 in
theorem ggX5_caller_X5_isCaller : GoodIn wsX5_caller wsX5_isCaller := goodIn_r _ [5, 6, 14, 15, 16, 17, 18] (by decide +kernel) (by decide +kernel)
set_option maxRecDepth 20000 in
theorem gX5_caller_X5_isCaller : GoodIn wsX5_caller (wsV RX5 131 RX5 yX5_isCaller wsX5_isCaller) := goodIn_app (goodIn_of _ (by decide +kernel)) ggX5_caller_X5_isCaller
set_option maxRecDepth 20000 in
theorem ggX5_caller_X5_in : GoodIn wsX5_caller wsX5_in := goodIn_r _ [9] (by decide +kernel) (by decide +kernel)
set_option maxRecDepth 20000 in
theorem gX5_caller_X5_in : GoodIn wsX5_caller (va_wsS RX5 26 yX5_in wsX5_in) := goodIn_app (goodIn_of _ (by decide +kernel)) ggX5_caller_X5_in
set_option maxRecDepth 20000 in
theorem ggX5_caller_X5_ofCaller : GoodIn wsX5_caller wsX5_ofCaller := goodIn_r _ [13, 6, 14, 15, 16, 17, 18] (by decide +kernel) (by decide +kernel)
set_option maxRecDepth 20000 in
theorem gX5_caller_X5_ofCaller : GoodIn wsX5_caller (wsV RX5 34 RX5 yX5_ofCaller wsX5_ofCaller) := goodIn_app (goodIn_of _ (by decide +kernel)) ggX5_caller_X5_ofCaller
theorem dX5_caller_0 : decode cX5_caller 0 = .ok (.aload_n 0, 1) := by decide +kernel
theorem dX5_caller_1 : decode cX5_caller 1 = .ok (.iload_n 1, 1) := by decide +kernel
theorem dX5_caller_2 : decode cX5_caller 2 = .ok (.invokevirtual 131, 3) := by decide +kernel
theorem dX5_caller_5 : decode cX5_caller 5 = .ok (.ifCond .eq 22, 3) := by decide +kernel
theorem dX5_caller_8 : decode cX5_caller 8 = .ok (.iload_n 2, 1) := by decide +kernel
theorem dX5_caller_9 : decode cX5_caller 9 = .ok (.iconst 0, 1) := by decide +kernel
theorem dX5_caller_10 : decode cX5_caller 10 = .ok (.bipush 7, 2) := by decide +kernel
theorem dX5_caller_12 : decode cX5_caller 12 = .ok (.invokestatic 26, 3) := by decide +kernel
theorem dX5_caller_15 : decode cX5_caller 15 = .ok (.ifCond .eq 12, 3) := by decide +kernel
theorem dX5_caller_18 : decode cX5_caller 18 = .ok (.aload_n 0, 1) := by decide +kernel
theorem dX5_caller_19 : decode cX5_caller 19 = .ok (.iload_n 1, 1) := by decide +kernel
theorem dX5_caller_20 : decode cX5_caller 20 = .ok (.iload_n 2, 1) := by decide +kernel
theorem dX5_caller_21 : decode cX5_caller 21 = .ok (.invokevirtual 34, 3) := by decide +kernel
theorem dX5_caller_24 : decode cX5_caller 24 = .ok (.goto 4, 3) := by decide +kernel
theorem dX5_caller_27 : decode cX5_caller 27 = .ok (.iconst (-1), 1) := by decide +kernel
theorem dX5_caller_28 : decode cX5_caller 28 = .ok (.ireturn, 1) := by decide +kernel
set_option maxRecDepth 20000 in
theorem ggX5_group_X5_in : GoodIn wsX5_group wsX5_in := goodIn_r _ [5] (by decide +kernel) (by decide +kernel)
set_option maxRecDepth 20000 in
theorem gX5_group_X5_in : GoodIn wsX5_group (va_wsS RX5 26 yX5_in wsX5_in) := goodIn_app (goodIn_of _ (by decide +kernel)) ggX5_group_X5_in
set_option maxRecDepth 20000 in
theorem ggX5_group_X5_isFirst : GoodIn wsX5_group wsX5_isFirst := goodIn_r _ [9, 10, 11, 12, 4, 13, 14, 15, 16, 17, 1, 18, 19, 20, 21, 22, 23, 24, 25, 26] (by decide +kernel) (by decide +kernel)
set_option maxRecDepth 20000 in
theorem gX5_group_X5_isFirst : GoodIn wsX5_group (wsV RX5 122 RX5 yX5_isFirst wsX5_isFirst) := goodIn_app (goodIn_of _ (by decide +kernel)) ggX5_group_X5_isFirst
set_option maxRecDepth 20000 in
theorem ggX5_group_X5_isOpen : GoodIn wsX5_group wsX5_isOpen := goodIn_r _ [13, 14, 15, 16, 4, 17, 1, 22, 23, 24, 25, 26] (by decide +kernel) (by decide +kernel)
set_option maxRecDepth 20000 in
theorem gX5_group_X5_isOpen : GoodIn wsX5_group (wsV RX5 116 RX5 yX5_isOpen wsX5_isOpen) := goodIn_app (goodIn_of _ (by decide +kernel)) ggX5_group_X5_isOpen
set_option maxRecDepth 20000 in
theorem ggX5_group_X5_areOne : GoodIn wsX5_group wsX5_areOne := goodIn_r _ [21, 14, 15, 16, 4, 17, 1, 22, 23, 24, 25, 26] (by decide +kernel) (by decide +kernel)
set_option maxRecDepth 20000 in
theorem gX5_group_X5_areOne : GoodIn wsX5_group (wsV RX5 119 RX5 yX5_areOne wsX5_areOne) := goodIn_app (goodIn_of _ (by decide +kernel)) ggX5_group_X5_areOne
set_option maxRecDepth 20000 in
theorem ggX5_group_X5_ofCaller : GoodIn wsX5_group wsX5_ofCaller := goodIn_r _ [17, 1, 22, 23, 24, 25, 26] (by decide +kernel) (by decide +kernel)
set_option maxRecDepth 20000 in
theorem gX5_group_X5_ofCaller : GoodIn wsX5_group (wsV RX5 34 RX5 yX5_ofCaller wsX5_ofCaller) := goodIn_app (goodIn_of _ (by decide +kernel)) ggX5_group_X5_ofCaller
theorem dX5_group_0 : decode cX5_group 0 = .ok (.iload_n 1, 1) := by decide +kernel
theorem dX5_group_1 : decode cX5_group 1 = .ok (.ifCond .lt 12, 3) := by decide +kernel
theorem dX5_group_4 : decode cX5_group 4 = .ok (.iload_n 2, 1) := by decide +kernel
theorem dX5_group_5 : decode cX5_group 5 = .ok (.iconst 0, 1) := by decide +kernel
theorem dX5_group_6 : decode cX5_group 6 = .ok (.iconst 3, 1) := by decide +kernel
theorem dX5_group_7 : decode cX5_group 7 = .ok (.invokestatic 26, 3) := by decide +kernel
theorem dX5_group_10 : decode cX5_group 10 = .ok (.ifCond .ne 5, 3) := by decide +kernel
theorem dX5_group_13 : decode cX5_group 13 = .ok (.iconst (-1), 1) := by decide +kernel
theorem dX5_group_14 : decode cX5_group 14 = .ok (.ireturn, 1) := by decide +kernel
theorem dX5_group_15 : decode cX5_group 15 = .ok (.iconst 0, 1) := by decide +kernel
theorem dX5_group_16 : decode cX5_group 16 = .ok (.istore_n 3, 1) := by decide +kernel
theorem dX5_group_17 : decode cX5_group 17 = .ok (.bipush (-9), 2) := by decide +kernel
theorem dX5_group_19 : decode cX5_group 19 = .ok (.istore 4, 2) := by decide +kernel
theorem dX5_group_21 : decode cX5_group 21 = .ok (.iconst 0, 1) := by decide +kernel
theorem dX5_group_22 : decode cX5_group 22 = .ok (.istore 5, 2) := by decide +kernel
theorem dX5_group_24 : decode cX5_group 24 = .ok (.iload 5, 2) := by decide +kernel
theorem dX5_group_26 : decode cX5_group 26 = .ok (.aload_n 0, 1) := by decide +kernel
theorem dX5_group_27 : decode cX5_group 27 = .ok (.getfield 7, 3) := by decide +kernel
theorem dX5_group_30 : decode cX5_group 30 = .ok (.iconst 2, 1) := by decide +kernel
theorem dX5_group_31 : decode cX5_group 31 = .ok (.iaload, 1) := by decide +kernel
theorem dX5_group_32 : decode cX5_group 32 = .ok (.if_icmp .ge 49, 3) := by decide +kernel
theorem dX5_group_35 : decode cX5_group 35 = .ok (.aload_n 0, 1) := by decide +kernel
theorem dX5_group_36 : decode cX5_group 36 = .ok (.iload 5, 2) := by decide +kernel
theorem dX5_group_38 : decode cX5_group 38 = .ok (.invokevirtual 122, 3) := by decide +kernel
theorem dX5_group_41 : decode cX5_group 41 = .ok (.istore 6, 2) := by decide +kernel
theorem dX5_group_43 : decode cX5_group 43 = .ok (.iload 6, 2) := by decide +kernel
theorem dX5_group_45 : decode cX5_group 45 = .ok (.ifCond .eq 13, 3) := by decide +kernel
theorem dX5_group_48 : decode cX5_group 48 = .ok (.iload_n 3, 1) := by decide +kernel
theorem dX5_group_49 : decode cX5_group 49 = .ok (.iload_n 1, 1) := by decide +kernel
theorem dX5_group_50 : decode cX5_group 50 = .ok (.if_icmp .ne 8, 3) := by decide +kernel
theorem dX5_group_53 : decode cX5_group 53 = .ok (.iload 5, 2) := by decide +kernel
theorem dX5_group_55 : decode cX5_group 55 = .ok (.goto 5, 3) := by decide +kernel
theorem dX5_group_58 : decode cX5_group 58 = .ok (.iload 4, 2) := by decide +kernel
theorem dX5_group_60 : decode cX5_group 60 = .ok (.istore 4, 2) := by decide +kernel
theorem dX5_group_62 : decode cX5_group 62 = .ok (.iload_n 3, 1) := by decide +kernel
theorem dX5_group_63 : decode cX5_group 63 = .ok (.iload 6, 2) := by decide +kernel
theorem dX5_group_65 : decode cX5_group 65 = .ok (.ifCond .eq 7, 3) := by decide +kernel
theorem dX5_group_68 : decode cX5_group 68 = .ok (.iconst 1, 1) := by decide +kernel
theorem dX5_group_69 : decode cX5_group 69 = .ok (.goto 4, 3) := by decide +kernel
theorem dX5_group_72 : decode cX5_group 72 = .ok (.iconst 0, 1) := by decide +kernel
theorem dX5_group_73 : decode cX5_group 73 = .ok (.iadd, 1) := by decide +kernel
theorem dX5_group_74 : decode cX5_group 74 = .ok (.istore_n 3, 1) := by decide +kernel
theorem dX5_group_75 : decode cX5_group 75 = .ok (.iinc 5 1, 3) := by decide +kernel
theorem dX5_group_78 : decode cX5_group 78 = .ok (.goto (-54), 3) := by decide +kernel
theorem dX5_group_81 : decode cX5_group 81 = .ok (.iload 4, 2) := by decide +kernel
theorem dX5_group_83 : decode cX5_group 83 = .ok (.bipush (-9), 2) := by decide +kernel
theorem dX5_group_85 : decode cX5_group 85 = .ok (.if_icmp .eq 8, 3) := by decide +kernel
theorem dX5_group_88 : decode cX5_group 88 = .ok (.iload_n 2, 1) := by decide +kernel
theorem dX5_group_89 : decode cX5_group 89 = .ok (.iconst 3, 1) := by decide +kernel
theorem dX5_group_90 : decode cX5_group 90 = .ok (.if_icmp .ne 6, 3) := by decide +kernel
theorem dX5_group_93 : decode cX5_group 93 = .ok (.iload 4, 2) := by decide +kernel
theorem dX5_group_95 : decode cX5_group 95 = .ok (.ireturn, 1) := by decide +kernel
theorem dX5_group_96 : decode cX5_group 96 = .ok (.iconst 0, 1) := by decide +kernel
theorem dX5_group_97 : decode cX5_group 97 = .ok (.istore 5, 2) := by decide +kernel
theorem dX5_group_99 : decode cX5_group 99 = .ok (.iconst 0, 1) := by decide +kernel
theorem dX5_group_100 : decode cX5_group 100 = .ok (.istore 6, 2) := by decide +kernel
theorem dX5_group_102 : decode cX5_group 102 = .ok (.iload 6, 2) := by decide +kernel
theorem dX5_group_104 : decode cX5_group 104 = .ok (.aload_n 0, 1) := by decide +kernel
theorem dX5_group_105 : decode cX5_group 105 = .ok (.getfield 7, 3) := by decide +kernel
theorem dX5_group_108 : decode cX5_group 108 = .ok (.iconst 2, 1) := by decide +kernel
theorem dX5_group_109 : decode cX5_group 109 = .ok (.iaload, 1) := by decide +kernel
theorem dX5_group_110 : decode cX5_group 110 = .ok (.if_icmp .ge 39, 3) := by decide +kernel
theorem dX5_group_113 : decode cX5_group 113 = .ok (.iload 5, 2) := by decide +kernel
theorem dX5_group_115 : decode cX5_group 115 = .ok (.aload_n 0, 1) := by decide +kernel
theorem dX5_group_116 : decode cX5_group 116 = .ok (.iload 6, 2) := by decide +kernel
theorem dX5_group_118 : decode cX5_group 118 = .ok (.invokevirtual 116, 3) := by decide +kernel
theorem dX5_group_121 : decode cX5_group 121 = .ok (.ifCond .eq 18, 3) := by decide +kernel
theorem dX5_group_124 : decode cX5_group 124 = .ok (.aload_n 0, 1) := by decide +kernel
theorem dX5_group_125 : decode cX5_group 125 = .ok (.iload 6, 2) := by decide +kernel
theorem dX5_group_127 : decode cX5_group 127 = .ok (.iload 4, 2) := by decide +kernel
theorem dX5_group_129 : decode cX5_group 129 = .ok (.invokevirtual 119, 3) := by decide +kernel
theorem dX5_group_132 : decode cX5_group 132 = .ok (.ifCond .eq 7, 3) := by decide +kernel
theorem dX5_group_135 : decode cX5_group 135 = .ok (.iconst 1, 1) := by decide +kernel
theorem dX5_group_136 : decode cX5_group 136 = .ok (.goto 4, 3) := by decide +kernel
theorem dX5_group_139 : decode cX5_group 139 = .ok (.iconst 0, 1) := by decide +kernel
theorem dX5_group_140 : decode cX5_group 140 = .ok (.iadd, 1) := by decide +kernel
theorem dX5_group_141 : decode cX5_group 141 = .ok (.istore 5, 2) := by decide +kernel
theorem dX5_group_143 : decode cX5_group 143 = .ok (.iinc 6 1, 3) := by decide +kernel
theorem dX5_group_146 : decode cX5_group 146 = .ok (.goto (-44), 3) := by decide +kernel
theorem dX5_group_149 : decode cX5_group 149 = .ok (.iload_n 2, 1) := by decide +kernel
theorem dX5_group_150 : decode cX5_group 150 = .ok (.iconst 2, 1) := by decide +kernel
theorem dX5_group_151 : decode cX5_group 151 = .ok (.if_icmp .ne 8, 3) := by decide +kernel
theorem dX5_group_154 : decode cX5_group 154 = .ok (.iload 5, 2) := by decide +kernel
theorem dX5_group_156 : decode cX5_group 156 = .ok (.goto 10, 3) := by decide +kernel
theorem dX5_group_159 : decode cX5_group 159 = .ok (.aload_n 0, 1) := by decide +kernel
theorem dX5_group_160 : decode cX5_group 160 = .ok (.iload 4, 2) := by decide +kernel
theorem dX5_group_162 : decode cX5_group 162 = .ok (.iload_n 2, 1) := by decide +kernel
theorem dX5_group_163 : decode cX5_group 163 = .ok (.invokevirtual 34, 3) := by decide +kernel
theorem dX5_group_166 : decode cX5_group 166 = .ok (.ireturn, 1) := by decide +kernel
set_option maxRecDepth 20000 in
theorem ggX5_cost_X5_isCar : GoodIn wsX5_cost wsX5_isCar := goodIn_r _ [5, 6, 54, 55, 56, 57, 58] (by decide +kernel) (by decide +kernel)
set_option maxRecDepth 20000 in
theorem gX5_cost_X5_isCar : GoodIn wsX5_cost (wsV RX5 98 RX5 yX5_isCar wsX5_isCar) := goodIn_app (goodIn_of _ (by decide +kernel)) ggX5_cost_X5_isCar
set_option maxRecDepth 20000 in
theorem ggX5_cost_X5_isWay : GoodIn wsX5_cost wsX5_isWay := goodIn_r _ [9, 10, 11, 4, 12, 13, 14, 15] (by decide +kernel) (by decide +kernel)
set_option maxRecDepth 20000 in
theorem gX5_cost_X5_isWay : GoodIn wsX5_cost (va_wsS RX5 110 yX5_isWay wsX5_isWay) := goodIn_app (goodIn_of _ (by decide +kernel)) ggX5_cost_X5_isWay
set_option maxRecDepth 20000 in
theorem ggX5_cost_X5_canBeGiven : GoodIn wsX5_cost wsX5_canBeGiven := goodIn_r _ [19, 20, 21, 22, 4, 23, 6, 24, 25, 26, 27, 28, 29, 30, 31, 13, 14, 15, 54, 55, 56, 57, 58] (by decide +kernel) (by decide +kernel)
set_option maxRecDepth 20000 in
theorem gX5_cost_X5_canBeGiven : GoodIn wsX5_cost (wsV RX5 58 RX5 yX5_canBeGiven wsX5_canBeGiven) := goodIn_app (goodIn_of _ (by decide +kernel)) ggX5_cost_X5_canBeGiven
set_option maxRecDepth 20000 in
theorem ggX5_cost_X5_costOf : GoodIn wsX5_cost wsX5_costOf := goodIn_r _ [35, 36, 37, 38, 4, 39, 6, 40, 41, 42, 43, 13, 14, 15, 44, 45, 46, 20, 21, 22, 23, 47, 48, 49, 50, 51, 52, 53, 54, 55, 56, 57, 58] (by decide +kernel) (by decide +kernel)
set_option maxRecDepth 20000 in
theorem gX5_cost_X5_costOf : GoodIn wsX5_cost (wsV RX5 61 RX5 yX5_costOf wsX5_costOf) := goodIn_app (goodIn_of _ (by decide +kernel)) ggX5_cost_X5_costOf
theorem dX5_cost_0 : decode cX5_cost 0 = .ok (.aload_n 0, 1) := by decide +kernel
theorem dX5_cost_1 : decode cX5_cost 1 = .ok (.iload_n 1, 1) := by decide +kernel
theorem dX5_cost_2 : decode cX5_cost 2 = .ok (.invokevirtual 98, 3) := by decide +kernel
theorem dX5_cost_5 : decode cX5_cost 5 = .ok (.ifCond .eq 11, 3) := by decide +kernel
theorem dX5_cost_8 : decode cX5_cost 8 = .ok (.iload_n 2, 1) := by decide +kernel
theorem dX5_cost_9 : decode cX5_cost 9 = .ok (.iload_n 3, 1) := by decide +kernel
theorem dX5_cost_10 : decode cX5_cost 10 = .ok (.invokestatic 110, 3) := by decide +kernel
theorem dX5_cost_13 : decode cX5_cost 13 = .ok (.ifCond .ne 5, 3) := by decide +kernel
theorem dX5_cost_16 : decode cX5_cost 16 = .ok (.iconst (-1), 1) := by decide +kernel
theorem dX5_cost_17 : decode cX5_cost 17 = .ok (.ireturn, 1) := by decide +kernel
theorem dX5_cost_18 : decode cX5_cost 18 = .ok (.aload_n 0, 1) := by decide +kernel
theorem dX5_cost_19 : decode cX5_cost 19 = .ok (.iload_n 1, 1) := by decide +kernel
theorem dX5_cost_20 : decode cX5_cost 20 = .ok (.iload_n 2, 1) := by decide +kernel
theorem dX5_cost_21 : decode cX5_cost 21 = .ok (.iload_n 3, 1) := by decide +kernel
theorem dX5_cost_22 : decode cX5_cost 22 = .ok (.invokevirtual 58, 3) := by decide +kernel
theorem dX5_cost_25 : decode cX5_cost 25 = .ok (.ifCond .eq 13, 3) := by decide +kernel
theorem dX5_cost_28 : decode cX5_cost 28 = .ok (.aload_n 0, 1) := by decide +kernel
theorem dX5_cost_29 : decode cX5_cost 29 = .ok (.iload_n 1, 1) := by decide +kernel
theorem dX5_cost_30 : decode cX5_cost 30 = .ok (.iload_n 2, 1) := by decide +kernel
theorem dX5_cost_31 : decode cX5_cost 31 = .ok (.iload_n 3, 1) := by decide +kernel
theorem dX5_cost_32 : decode cX5_cost 32 = .ok (.invokevirtual 61, 3) := by decide +kernel
theorem dX5_cost_35 : decode cX5_cost 35 = .ok (.goto 5, 3) := by decide +kernel
theorem dX5_cost_38 : decode cX5_cost 38 = .ok (.bipush (-9), 2) := by decide +kernel
theorem dX5_cost_40 : decode cX5_cost 40 = .ok (.ireturn, 1) := by decide +kernel
set_option maxRecDepth 20000 in
theorem ggX5_would_X5_isWay : GoodIn wsX5_would wsX5_isWay := goodIn_r _ [4, 5, 6, 3, 7, 8, 9, 10] (by decide +kernel) (by decide +kernel)
set_option maxRecDepth 20000 in
theorem gX5_would_X5_isWay : GoodIn wsX5_would (va_wsS RX5 110 yX5_isWay wsX5_isWay) := goodIn_app (goodIn_of _ (by decide +kernel)) ggX5_would_X5_isWay
set_option maxRecDepth 20000 in
theorem ggX5_would_X5_best : GoodIn wsX5_would wsX5_best := goodIn_r _ [14, 15, 16, 17, 18, 3, 19, 20, 21, 22, 23, 24, 25, 26, 27, 28, 29, 30, 31, 8, 9, 10, 32, 33, 34, 35, 36, 37, 38, 39, 40, 41, 42, 43, 44, 45, 46, 47, 48, 49, 50, 51, 52, 53, 54, 55, 56, 57, 58] (by decide +kernel) (by decide +kernel)
set_option maxRecDepth 20000 in
theorem gX5_would_X5_best : GoodIn wsX5_would (wsV RX5 65 RX5 yX5_best wsX5_best) := goodIn_app (goodIn_of _ (by decide +kernel)) ggX5_would_X5_best
theorem dX5_would_0 : decode cX5_would 0 = .ok (.iload_n 1, 1) := by decide +kernel
theorem dX5_would_1 : decode cX5_would 1 = .ok (.iload_n 2, 1) := by decide +kernel
theorem dX5_would_2 : decode cX5_would 2 = .ok (.invokestatic 110, 3) := by decide +kernel
theorem dX5_would_5 : decode cX5_would 5 = .ok (.ifCond .eq 12, 3) := by decide +kernel
theorem dX5_would_8 : decode cX5_would 8 = .ok (.aload_n 0, 1) := by decide +kernel
theorem dX5_would_9 : decode cX5_would 9 = .ok (.iload_n 1, 1) := by decide +kernel
theorem dX5_would_10 : decode cX5_would 10 = .ok (.iload_n 2, 1) := by decide +kernel
theorem dX5_would_11 : decode cX5_would 11 = .ok (.invokevirtual 65, 3) := by decide +kernel
theorem dX5_would_14 : decode cX5_would 14 = .ok (.goto 4, 3) := by decide +kernel
theorem dX5_would_17 : decode cX5_would 17 = .ok (.iconst (-1), 1) := by decide +kernel
theorem dX5_would_18 : decode cX5_would 18 = .ok (.ireturn, 1) := by decide +kernel
set_option maxRecDepth 20000 in
theorem ggX5_thereIn_X5_isCaller : GoodIn wsX5_thereIn wsX5_isCaller := goodIn_r _ [7, 1, 92, 93, 94, 95, 96] (by decide +kernel) (by decide +kernel)
set_option maxRecDepth 20000 in
theorem gX5_thereIn_X5_isCaller : GoodIn wsX5_thereIn (wsV RX5 131 RX5 yX5_isCaller wsX5_isCaller) := goodIn_app (goodIn_of _ (by decide +kernel)) ggX5_thereIn_X5_isCaller
set_option maxRecDepth 20000 in
theorem ggX5_thereIn_X5_copies : GoodIn wsX5_thereIn wsX5_copies := goodIn_r _ [10] (by decide +kernel) (by decide +kernel)
set_option maxRecDepth 20000 in
theorem gX5_thereIn_X5_copies : GoodIn wsX5_thereIn (va_wsS RX5 134 yX5_copies wsX5_copies) := goodIn_app (goodIn_of _ (by decide +kernel)) ggX5_thereIn_X5_copies
set_option maxRecDepth 20000 in
theorem ggX5_thereIn_X5_ofCaller : GoodIn wsX5_thereIn wsX5_ofCaller := goodIn_r _ [14, 1, 92, 93, 94, 95, 96] (by decide +kernel) (by decide +kernel)
set_option maxRecDepth 20000 in
theorem gX5_thereIn_X5_ofCaller : GoodIn wsX5_thereIn (wsV RX5 34 RX5 yX5_ofCaller wsX5_ofCaller) := goodIn_app (goodIn_of _ (by decide +kernel)) ggX5_thereIn_X5_ofCaller
set_option maxRecDepth 20000 in
theorem ggX5_thereIn_X5_ticks : GoodIn wsX5_thereIn wsX5_ticks := goodIn_r _ [18, 1, 11, 12, 13, 6, 14, 19, 20, 21, 22, 23, 24, 25, 26, 27, 28, 29, 30, 31, 32, 33, 34, 35, 36, 37, 38, 39, 40, 41, 42, 43, 44, 45, 46, 47, 48, 49, 50, 51, 52, 53, 54, 55, 56, 57, 58, 59, 60, 61, 62, 63, 64, 65, 66, 67, 68, 69, 70, 71, 72, 73, 74, 75, 76, 77, 78, 79, 80, 81, 82, 83, 84, 85, 86, 87, 88, 89, 90, 91, 92, 93, 94, 95, 96] (by decide +kernel) (by decide +kernel)
set_option maxRecDepth 20000 in
theorem gX5_thereIn_X5_ticks : GoodIn wsX5_thereIn (wsV RX5 113 RX5 yX5_ticks wsX5_ticks) := goodIn_app (goodIn_of _ (by decide +kernel)) ggX5_thereIn_X5_ticks
theorem dX5_thereIn_0 : decode cX5_thereIn 0 = .ok (.aload_n 0, 1) := by decide +kernel
theorem dX5_thereIn_1 : decode cX5_thereIn 1 = .ok (.iload_n 1, 1) := by decide +kernel
theorem dX5_thereIn_2 : decode cX5_thereIn 2 = .ok (.invokevirtual 131, 3) := by decide +kernel
theorem dX5_thereIn_5 : decode cX5_thereIn 5 = .ok (.ifCond .ne 5, 3) := by decide +kernel
theorem dX5_thereIn_8 : decode cX5_thereIn 8 = .ok (.iconst (-1), 1) := by decide +kernel
theorem dX5_thereIn_9 : decode cX5_thereIn 9 = .ok (.ireturn, 1) := by decide +kernel
theorem dX5_thereIn_10 : decode cX5_thereIn 10 = .ok (.aload_n 0, 1) := by decide +kernel
theorem dX5_thereIn_11 : decode cX5_thereIn 11 = .ok (.getfield 7, 3) := by decide +kernel
theorem dX5_thereIn_14 : decode cX5_thereIn 14 = .ok (.aload_n 0, 1) := by decide +kernel
theorem dX5_thereIn_15 : decode cX5_thereIn 15 = .ok (.getfield 16, 3) := by decide +kernel
theorem dX5_thereIn_18 : decode cX5_thereIn 18 = .ok (.invokestatic 134, 3) := by decide +kernel
theorem dX5_thereIn_21 : decode cX5_thereIn 21 = .ok (.iconst 0, 1) := by decide +kernel
theorem dX5_thereIn_22 : decode cX5_thereIn 22 = .ok (.istore_n 2, 1) := by decide +kernel
theorem dX5_thereIn_23 : decode cX5_thereIn 23 = .ok (.iload_n 2, 1) := by decide +kernel
theorem dX5_thereIn_24 : decode cX5_thereIn 24 = .ok (.sipush 400, 3) := by decide +kernel
theorem dX5_thereIn_27 : decode cX5_thereIn 27 = .ok (.if_icmp .gt 23, 3) := by decide +kernel
theorem dX5_thereIn_30 : decode cX5_thereIn 30 = .ok (.aload_n 0, 1) := by decide +kernel
theorem dX5_thereIn_31 : decode cX5_thereIn 31 = .ok (.iload_n 1, 1) := by decide +kernel
theorem dX5_thereIn_32 : decode cX5_thereIn 32 = .ok (.iconst 2, 1) := by decide +kernel
theorem dX5_thereIn_33 : decode cX5_thereIn 33 = .ok (.invokevirtual 34, 3) := by decide +kernel
theorem dX5_thereIn_36 : decode cX5_thereIn 36 = .ok (.iconst 3, 1) := by decide +kernel
theorem dX5_thereIn_37 : decode cX5_thereIn 37 = .ok (.if_icmp .eq 13, 3) := by decide +kernel
theorem dX5_thereIn_40 : decode cX5_thereIn 40 = .ok (.aload_n 0, 1) := by decide +kernel
theorem dX5_thereIn_41 : decode cX5_thereIn 41 = .ok (.invokevirtual 113, 3) := by decide +kernel
theorem dX5_thereIn_44 : decode cX5_thereIn 44 = .ok (.iinc 2 1, 3) := by decide +kernel
theorem dX5_thereIn_47 : decode cX5_thereIn 47 = .ok (.goto (-24), 3) := by decide +kernel
theorem dX5_thereIn_50 : decode cX5_thereIn 50 = .ok (.aload_n 0, 1) := by decide +kernel
theorem dX5_thereIn_51 : decode cX5_thereIn 51 = .ok (.getfield 16, 3) := by decide +kernel
theorem dX5_thereIn_54 : decode cX5_thereIn 54 = .ok (.aload_n 0, 1) := by decide +kernel
theorem dX5_thereIn_55 : decode cX5_thereIn 55 = .ok (.getfield 7, 3) := by decide +kernel
theorem dX5_thereIn_58 : decode cX5_thereIn 58 = .ok (.invokestatic 134, 3) := by decide +kernel
theorem dX5_thereIn_61 : decode cX5_thereIn 61 = .ok (.iload_n 2, 1) := by decide +kernel
theorem dX5_thereIn_62 : decode cX5_thereIn 62 = .ok (.sipush 400, 3) := by decide +kernel
theorem dX5_thereIn_65 : decode cX5_thereIn 65 = .ok (.if_icmp .le 8, 3) := by decide +kernel
theorem dX5_thereIn_68 : decode cX5_thereIn 68 = .ok (.bipush (-9), 2) := by decide +kernel
theorem dX5_thereIn_70 : decode cX5_thereIn 70 = .ok (.goto 4, 3) := by decide +kernel
theorem dX5_thereIn_73 : decode cX5_thereIn 73 = .ok (.iload_n 2, 1) := by decide +kernel
theorem dX5_thereIn_74 : decode cX5_thereIn 74 = .ok (.ireturn, 1) := by decide +kernel
set_option maxRecDepth 20000 in
theorem ggX5_waited_X5_ofCaller : GoodIn wsX5_waited wsX5_ofCaller := goodIn_r _ [6, 1, 7, 8, 9, 10, 11] (by decide +kernel) (by decide +kernel)
set_option maxRecDepth 20000 in
theorem gX5_waited_X5_ofCaller : GoodIn wsX5_waited (wsV RX5 34 RX5 yX5_ofCaller wsX5_ofCaller) := goodIn_app (goodIn_of _ (by decide +kernel)) ggX5_waited_X5_ofCaller
theorem dX5_waited_0 : decode cX5_waited 0 = .ok (.aload_n 0, 1) := by decide +kernel
theorem dX5_waited_1 : decode cX5_waited 1 = .ok (.iload_n 1, 1) := by decide +kernel
theorem dX5_waited_2 : decode cX5_waited 2 = .ok (.iconst 2, 1) := by decide +kernel
theorem dX5_waited_3 : decode cX5_waited 3 = .ok (.invokevirtual 34, 3) := by decide +kernel
theorem dX5_waited_6 : decode cX5_waited 6 = .ok (.iconst 2, 1) := by decide +kernel
theorem dX5_waited_7 : decode cX5_waited 7 = .ok (.if_icmp .lt 12, 3) := by decide +kernel
theorem dX5_waited_10 : decode cX5_waited 10 = .ok (.aload_n 0, 1) := by decide +kernel
theorem dX5_waited_11 : decode cX5_waited 11 = .ok (.iload_n 1, 1) := by decide +kernel
theorem dX5_waited_12 : decode cX5_waited 12 = .ok (.iconst 5, 1) := by decide +kernel
theorem dX5_waited_13 : decode cX5_waited 13 = .ok (.invokevirtual 34, 3) := by decide +kernel
theorem dX5_waited_16 : decode cX5_waited 16 = .ok (.goto 9, 3) := by decide +kernel
theorem dX5_waited_19 : decode cX5_waited 19 = .ok (.aload_n 0, 1) := by decide +kernel
theorem dX5_waited_20 : decode cX5_waited 20 = .ok (.getfield 7, 3) := by decide +kernel
theorem dX5_waited_23 : decode cX5_waited 23 = .ok (.iconst 0, 1) := by decide +kernel
theorem dX5_waited_24 : decode cX5_waited 24 = .ok (.iaload, 1) := by decide +kernel
theorem dX5_waited_25 : decode cX5_waited 25 = .ok (.aload_n 0, 1) := by decide +kernel
theorem dX5_waited_26 : decode cX5_waited 26 = .ok (.iload_n 1, 1) := by decide +kernel
theorem dX5_waited_27 : decode cX5_waited 27 = .ok (.iconst 4, 1) := by decide +kernel
theorem dX5_waited_28 : decode cX5_waited 28 = .ok (.invokevirtual 34, 3) := by decide +kernel
theorem dX5_waited_31 : decode cX5_waited 31 = .ok (.isub, 1) := by decide +kernel
theorem dX5_waited_32 : decode cX5_waited 32 = .ok (.ireturn, 1) := by decide +kernel
set_option maxRecDepth 20000 in
theorem ggX5_waits_X5_in : GoodIn wsX5_waits wsX5_in := goodIn_r _ [5] (by decide +kernel) (by decide +kernel)
set_option maxRecDepth 20000 in
theorem gX5_waits_X5_in : GoodIn wsX5_waits (va_wsS RX5 26 yX5_in wsX5_in) := goodIn_app (goodIn_of _ (by decide +kernel)) ggX5_waits_X5_in
set_option maxRecDepth 20000 in
theorem ggX5_waits_X5_waited : GoodIn wsX5_waits wsX5_waited := goodIn_r _ [9, 1, 10, 11, 12, 4, 13, 14, 15, 16, 17, 18] (by decide +kernel) (by decide +kernel)
set_option maxRecDepth 20000 in
theorem gX5_waits_X5_waited : GoodIn wsX5_waits (wsV RX5 138 RX5 yX5_waited wsX5_waited) := goodIn_app (goodIn_of _ (by decide +kernel)) ggX5_waits_X5_waited
theorem dX5_waits_0 : decode cX5_waits 0 = .ok (.iload_n 1, 1) := by decide +kernel
theorem dX5_waits_1 : decode cX5_waits 1 = .ok (.iconst 0, 1) := by decide +kernel
theorem dX5_waits_2 : decode cX5_waits 2 = .ok (.iconst 2, 1) := by decide +kernel
theorem dX5_waits_3 : decode cX5_waits 3 = .ok (.invokestatic 26, 3) := by decide +kernel
theorem dX5_waits_6 : decode cX5_waits 6 = .ok (.ifCond .ne 5, 3) := by decide +kernel
theorem dX5_waits_9 : decode cX5_waits 9 = .ok (.iconst (-1), 1) := by decide +kernel
theorem dX5_waits_10 : decode cX5_waits 10 = .ok (.ireturn, 1) := by decide +kernel
theorem dX5_waits_11 : decode cX5_waits 11 = .ok (.iconst 0, 1) := by decide +kernel
theorem dX5_waits_12 : decode cX5_waits 12 = .ok (.istore_n 2, 1) := by decide +kernel
theorem dX5_waits_13 : decode cX5_waits 13 = .ok (.bipush (-9), 2) := by decide +kernel
theorem dX5_waits_15 : decode cX5_waits 15 = .ok (.istore_n 3, 1) := by decide +kernel
theorem dX5_waits_16 : decode cX5_waits 16 = .ok (.bipush (-9), 2) := by decide +kernel
theorem dX5_waits_18 : decode cX5_waits 18 = .ok (.istore 4, 2) := by decide +kernel
theorem dX5_waits_20 : decode cX5_waits 20 = .ok (.iconst 0, 1) := by decide +kernel
theorem dX5_waits_21 : decode cX5_waits 21 = .ok (.istore 5, 2) := by decide +kernel
theorem dX5_waits_23 : decode cX5_waits 23 = .ok (.iload 5, 2) := by decide +kernel
theorem dX5_waits_25 : decode cX5_waits 25 = .ok (.aload_n 0, 1) := by decide +kernel
theorem dX5_waits_26 : decode cX5_waits 26 = .ok (.getfield 7, 3) := by decide +kernel
theorem dX5_waits_29 : decode cX5_waits 29 = .ok (.iconst 2, 1) := by decide +kernel
theorem dX5_waits_30 : decode cX5_waits 30 = .ok (.iaload, 1) := by decide +kernel
theorem dX5_waits_31 : decode cX5_waits 31 = .ok (.if_icmp .ge 50, 3) := by decide +kernel
theorem dX5_waits_34 : decode cX5_waits 34 = .ok (.aload_n 0, 1) := by decide +kernel
theorem dX5_waits_35 : decode cX5_waits 35 = .ok (.iload 5, 2) := by decide +kernel
theorem dX5_waits_37 : decode cX5_waits 37 = .ok (.invokevirtual 138, 3) := by decide +kernel
theorem dX5_waits_40 : decode cX5_waits 40 = .ok (.istore 6, 2) := by decide +kernel
theorem dX5_waits_42 : decode cX5_waits 42 = .ok (.iload_n 2, 1) := by decide +kernel
theorem dX5_waits_43 : decode cX5_waits 43 = .ok (.iload 6, 2) := by decide +kernel
theorem dX5_waits_45 : decode cX5_waits 45 = .ok (.iadd, 1) := by decide +kernel
theorem dX5_waits_46 : decode cX5_waits 46 = .ok (.istore_n 2, 1) := by decide +kernel
theorem dX5_waits_47 : decode cX5_waits 47 = .ok (.iload 6, 2) := by decide +kernel
theorem dX5_waits_49 : decode cX5_waits 49 = .ok (.iload_n 3, 1) := by decide +kernel
theorem dX5_waits_50 : decode cX5_waits 50 = .ok (.if_icmp .le 8, 3) := by decide +kernel
theorem dX5_waits_53 : decode cX5_waits 53 = .ok (.iload 5, 2) := by decide +kernel
theorem dX5_waits_55 : decode cX5_waits 55 = .ok (.goto 5, 3) := by decide +kernel
theorem dX5_waits_58 : decode cX5_waits 58 = .ok (.iload 4, 2) := by decide +kernel
theorem dX5_waits_60 : decode cX5_waits 60 = .ok (.istore 4, 2) := by decide +kernel
theorem dX5_waits_62 : decode cX5_waits 62 = .ok (.iload 6, 2) := by decide +kernel
theorem dX5_waits_64 : decode cX5_waits 64 = .ok (.iload_n 3, 1) := by decide +kernel
theorem dX5_waits_65 : decode cX5_waits 65 = .ok (.if_icmp .le 8, 3) := by decide +kernel
theorem dX5_waits_68 : decode cX5_waits 68 = .ok (.iload 6, 2) := by decide +kernel
theorem dX5_waits_70 : decode cX5_waits 70 = .ok (.goto 4, 3) := by decide +kernel
theorem dX5_waits_73 : decode cX5_waits 73 = .ok (.iload_n 3, 1) := by decide +kernel
theorem dX5_waits_74 : decode cX5_waits 74 = .ok (.istore_n 3, 1) := by decide +kernel
theorem dX5_waits_75 : decode cX5_waits 75 = .ok (.iinc 5 1, 3) := by decide +kernel
theorem dX5_waits_78 : decode cX5_waits 78 = .ok (.goto (-55), 3) := by decide +kernel
theorem dX5_waits_81 : decode cX5_waits 81 = .ok (.iload_n 1, 1) := by decide +kernel
theorem dX5_waits_82 : decode cX5_waits 82 = .ok (.iconst 2, 1) := by decide +kernel
theorem dX5_waits_83 : decode cX5_waits 83 = .ok (.if_icmp .ne 7, 3) := by decide +kernel
theorem dX5_waits_86 : decode cX5_waits 86 = .ok (.iload_n 2, 1) := by decide +kernel
theorem dX5_waits_87 : decode cX5_waits 87 = .ok (.goto 13, 3) := by decide +kernel
theorem dX5_waits_90 : decode cX5_waits 90 = .ok (.iload_n 1, 1) := by decide +kernel
theorem dX5_waits_91 : decode cX5_waits 91 = .ok (.ifCond .ne 7, 3) := by decide +kernel
theorem dX5_waits_94 : decode cX5_waits 94 = .ok (.iload_n 3, 1) := by decide +kernel
theorem dX5_waits_95 : decode cX5_waits 95 = .ok (.goto 5, 3) := by decide +kernel
theorem dX5_waits_98 : decode cX5_waits 98 = .ok (.iload 4, 2) := by decide +kernel
theorem dX5_waits_100 : decode cX5_waits 100 = .ok (.ireturn, 1) := by decide +kernel
set_option maxRecDepth 20000 in
theorem ggX5_allThere_X5_inAll : GoodIn wsX5_allThere wsX5_inAll := goodIn_r _ [6, 1, 7, 8, 9, 5, 10, 88, 89, 90, 91, 92] (by decide +kernel) (by decide +kernel)
set_option maxRecDepth 20000 in
theorem gX5_allThere_X5_inAll : GoodIn wsX5_allThere (wsV RX5 104 RX5 yX5_inAll wsX5_inAll) := goodIn_app (goodIn_of _ (by decide +kernel)) ggX5_allThere_X5_inAll
set_option maxRecDepth 20000 in
theorem ggX5_allThere_X5_ticks : GoodIn wsX5_allThere wsX5_ticks := goodIn_r _ [14, 1, 7, 8, 9, 5, 10, 15, 16, 17, 18, 19, 20, 21, 22, 23, 24, 25, 26, 27, 28, 29, 30, 31, 32, 33, 34, 35, 36, 37, 38, 39, 40, 41, 42, 43, 44, 45, 46, 47, 48, 49, 50, 51, 52, 53, 54, 55, 56, 57, 58, 59, 60, 61, 62, 63, 64, 65, 66, 67, 68, 69, 70, 71, 72, 73, 74, 75, 76, 77, 78, 79, 80, 81, 82, 83, 84, 85, 86, 87, 88, 89, 90, 91, 92] (by decide +kernel) (by decide +kernel)
set_option maxRecDepth 20000 in
theorem gX5_allThere_X5_ticks : GoodIn wsX5_allThere (wsV RX5 113 RX5 yX5_ticks wsX5_ticks) := goodIn_app (goodIn_of _ (by decide +kernel)) ggX5_allThere_X5_ticks
theorem dX5_allThere_0 : decode cX5_allThere 0 = .ok (.iconst 0, 1) := by decide +kernel
theorem dX5_allThere_1 : decode cX5_allThere 1 = .ok (.istore_n 1, 1) := by decide +kernel
theorem dX5_allThere_2 : decode cX5_allThere 2 = .ok (.iload_n 1, 1) := by decide +kernel
theorem dX5_allThere_3 : decode cX5_allThere 3 = .ok (.sipush 400, 3) := by decide +kernel
theorem dX5_allThere_6 : decode cX5_allThere 6 = .ok (.if_icmp .gt 27, 3) := by decide +kernel
theorem dX5_allThere_9 : decode cX5_allThere 9 = .ok (.aload_n 0, 1) := by decide +kernel
theorem dX5_allThere_10 : decode cX5_allThere 10 = .ok (.iconst 3, 1) := by decide +kernel
theorem dX5_allThere_11 : decode cX5_allThere 11 = .ok (.invokevirtual 104, 3) := by decide +kernel
theorem dX5_allThere_14 : decode cX5_allThere 14 = .ok (.aload_n 0, 1) := by decide +kernel
theorem dX5_allThere_15 : decode cX5_allThere 15 = .ok (.getfield 7, 3) := by decide +kernel
theorem dX5_allThere_18 : decode cX5_allThere 18 = .ok (.iconst 2, 1) := by decide +kernel
theorem dX5_allThere_19 : decode cX5_allThere 19 = .ok (.iaload, 1) := by decide +kernel
theorem dX5_allThere_20 : decode cX5_allThere 20 = .ok (.if_icmp .ge 13, 3) := by decide +kernel
theorem dX5_allThere_23 : decode cX5_allThere 23 = .ok (.aload_n 0, 1) := by decide +kernel
theorem dX5_allThere_24 : decode cX5_allThere 24 = .ok (.invokevirtual 113, 3) := by decide +kernel
theorem dX5_allThere_27 : decode cX5_allThere 27 = .ok (.iinc 1 1, 3) := by decide +kernel
theorem dX5_allThere_30 : decode cX5_allThere 30 = .ok (.goto (-28), 3) := by decide +kernel
theorem dX5_allThere_33 : decode cX5_allThere 33 = .ok (.iload_n 1, 1) := by decide +kernel
theorem dX5_allThere_34 : decode cX5_allThere 34 = .ok (.ireturn, 1) := by decide +kernel
set_option maxRecDepth 20000 in
theorem ggX5_worstCar_X5_in : GoodIn wsX5_worstCar wsX5_in := goodIn_r _ [6] (by decide +kernel) (by decide +kernel)
set_option maxRecDepth 20000 in
theorem gX5_worstCar_X5_in : GoodIn wsX5_worstCar (va_wsS RX5 26 yX5_in wsX5_in) := goodIn_app (goodIn_of _ (by decide +kernel)) ggX5_worstCar_X5_in
set_option maxRecDepth 20000 in
theorem ggX5_worstCar_X5_ofCar : GoodIn wsX5_worstCar wsX5_ofCar := goodIn_r _ [10, 1, 100, 101, 102, 103, 104] (by decide +kernel) (by decide +kernel)
set_option maxRecDepth 20000 in
theorem gX5_worstCar_X5_ofCar : GoodIn wsX5_worstCar (wsV RX5 38 RX5 yX5_ofCar wsX5_ofCar) := goodIn_app (goodIn_of _ (by decide +kernel)) ggX5_worstCar_X5_ofCar
set_option maxRecDepth 20000 in
theorem ggX5_worstCar_X5_copies : GoodIn wsX5_worstCar wsX5_copies := goodIn_r _ [13] (by decide +kernel) (by decide +kernel)
set_option maxRecDepth 20000 in
theorem gX5_worstCar_X5_copies : GoodIn wsX5_worstCar (va_wsS RX5 134 yX5_copies wsX5_copies) := goodIn_app (goodIn_of _ (by decide +kernel)) ggX5_worstCar_X5_copies
set_option maxRecDepth 20000 in
theorem ggX5_worstCar_X5_fails : GoodIn wsX5_worstCar wsX5_fails := goodIn_r _ [17, 1, 18, 19, 20, 5, 21, 3, 4, 6, 22, 23, 24, 25, 7, 8, 9, 10, 26, 27, 28, 29, 30, 31, 32, 33, 100, 101, 102, 103, 104] (by decide +kernel) (by decide +kernel)
set_option maxRecDepth 20000 in
theorem gX5_worstCar_X5_fails : GoodIn wsX5_worstCar (wsV RX5 101 RX5 yX5_fails wsX5_fails) := goodIn_app (goodIn_of _ (by decide +kernel)) ggX5_worstCar_X5_fails
set_option maxRecDepth 20000 in
theorem ggX5_worstCar_X5_allThere : GoodIn wsX5_worstCar wsX5_allThere := goodIn_r _ [37, 1, 38, 39, 40, 5, 41, 18, 19, 20, 21, 42, 43, 44, 45, 46, 47, 48, 49, 50, 51, 52, 53, 54, 55, 56, 57, 7, 8, 9, 10, 58, 59, 60, 61, 62, 63, 64, 65, 3, 4, 6, 66, 67, 68, 69, 70, 71, 72, 73, 74, 75, 76, 77, 78, 79, 80, 81, 82, 83, 26, 27, 28, 29, 84, 85, 86, 87, 88, 89, 90, 91, 22, 23, 24, 25, 92, 93, 94, 95, 96, 97, 98, 99, 30, 31, 32, 33, 100, 101, 102, 103, 104] (by decide +kernel) (by decide +kernel)
set_option maxRecDepth 20000 in
theorem gX5_worstCar_X5_allThere : GoodIn wsX5_worstCar (wsV RX5 141 RX5 yX5_allThere wsX5_allThere) := goodIn_app (goodIn_of _ (by decide +kernel)) ggX5_worstCar_X5_allThere
theorem dX5_worstCar_0 : decode cX5_worstCar 0 = .ok (.iload_n 1, 1) := by decide +kernel
theorem dX5_worstCar_1 : decode cX5_worstCar 1 = .ok (.iconst 0, 1) := by decide +kernel
theorem dX5_worstCar_2 : decode cX5_worstCar 2 = .ok (.iconst 1, 1) := by decide +kernel
theorem dX5_worstCar_3 : decode cX5_worstCar 3 = .ok (.invokestatic 26, 3) := by decide +kernel
theorem dX5_worstCar_6 : decode cX5_worstCar 6 = .ok (.ifCond .ne 5, 3) := by decide +kernel
theorem dX5_worstCar_9 : decode cX5_worstCar 9 = .ok (.iconst (-1), 1) := by decide +kernel
theorem dX5_worstCar_10 : decode cX5_worstCar 10 = .ok (.ireturn, 1) := by decide +kernel
theorem dX5_worstCar_11 : decode cX5_worstCar 11 = .ok (.bipush (-9), 2) := by decide +kernel
theorem dX5_worstCar_13 : decode cX5_worstCar 13 = .ok (.istore_n 2, 1) := by decide +kernel
theorem dX5_worstCar_14 : decode cX5_worstCar 14 = .ok (.bipush (-9), 2) := by decide +kernel
theorem dX5_worstCar_16 : decode cX5_worstCar 16 = .ok (.istore_n 3, 1) := by decide +kernel
theorem dX5_worstCar_17 : decode cX5_worstCar 17 = .ok (.iconst 0, 1) := by decide +kernel
theorem dX5_worstCar_18 : decode cX5_worstCar 18 = .ok (.istore 4, 2) := by decide +kernel
theorem dX5_worstCar_20 : decode cX5_worstCar 20 = .ok (.iload 4, 2) := by decide +kernel
theorem dX5_worstCar_22 : decode cX5_worstCar 22 = .ok (.aload_n 0, 1) := by decide +kernel
theorem dX5_worstCar_23 : decode cX5_worstCar 23 = .ok (.getfield 7, 3) := by decide +kernel
theorem dX5_worstCar_26 : decode cX5_worstCar 26 = .ok (.iconst 1, 1) := by decide +kernel
theorem dX5_worstCar_27 : decode cX5_worstCar 27 = .ok (.iaload, 1) := by decide +kernel
theorem dX5_worstCar_28 : decode cX5_worstCar 28 = .ok (.if_icmp .ge 80, 3) := by decide +kernel
theorem dX5_worstCar_31 : decode cX5_worstCar 31 = .ok (.aload_n 0, 1) := by decide +kernel
theorem dX5_worstCar_32 : decode cX5_worstCar 32 = .ok (.iload 4, 2) := by decide +kernel
theorem dX5_worstCar_34 : decode cX5_worstCar 34 = .ok (.iconst 4, 1) := by decide +kernel
theorem dX5_worstCar_35 : decode cX5_worstCar 35 = .ok (.invokevirtual 38, 3) := by decide +kernel
theorem dX5_worstCar_38 : decode cX5_worstCar 38 = .ok (.iconst 2, 1) := by decide +kernel
theorem dX5_worstCar_39 : decode cX5_worstCar 39 = .ok (.if_icmp .eq 63, 3) := by decide +kernel
theorem dX5_worstCar_42 : decode cX5_worstCar 42 = .ok (.aload_n 0, 1) := by decide +kernel
theorem dX5_worstCar_43 : decode cX5_worstCar 43 = .ok (.getfield 7, 3) := by decide +kernel
theorem dX5_worstCar_46 : decode cX5_worstCar 46 = .ok (.aload_n 0, 1) := by decide +kernel
theorem dX5_worstCar_47 : decode cX5_worstCar 47 = .ok (.getfield 19, 3) := by decide +kernel
theorem dX5_worstCar_50 : decode cX5_worstCar 50 = .ok (.invokestatic 134, 3) := by decide +kernel
theorem dX5_worstCar_53 : decode cX5_worstCar 53 = .ok (.aload_n 0, 1) := by decide +kernel
theorem dX5_worstCar_54 : decode cX5_worstCar 54 = .ok (.iload 4, 2) := by decide +kernel
theorem dX5_worstCar_56 : decode cX5_worstCar 56 = .ok (.invokevirtual 101, 3) := by decide +kernel
theorem dX5_worstCar_59 : decode cX5_worstCar 59 = .ok (.aload_n 0, 1) := by decide +kernel
theorem dX5_worstCar_60 : decode cX5_worstCar 60 = .ok (.invokevirtual 141, 3) := by decide +kernel
theorem dX5_worstCar_63 : decode cX5_worstCar 63 = .ok (.istore 5, 2) := by decide +kernel
theorem dX5_worstCar_65 : decode cX5_worstCar 65 = .ok (.aload_n 0, 1) := by decide +kernel
theorem dX5_worstCar_66 : decode cX5_worstCar 66 = .ok (.getfield 19, 3) := by decide +kernel
theorem dX5_worstCar_69 : decode cX5_worstCar 69 = .ok (.aload_n 0, 1) := by decide +kernel
theorem dX5_worstCar_70 : decode cX5_worstCar 70 = .ok (.getfield 7, 3) := by decide +kernel
theorem dX5_worstCar_73 : decode cX5_worstCar 73 = .ok (.invokestatic 134, 3) := by decide +kernel
theorem dX5_worstCar_76 : decode cX5_worstCar 76 = .ok (.iload 5, 2) := by decide +kernel
theorem dX5_worstCar_78 : decode cX5_worstCar 78 = .ok (.iload_n 3, 1) := by decide +kernel
theorem dX5_worstCar_79 : decode cX5_worstCar 79 = .ok (.if_icmp .le 8, 3) := by decide +kernel
theorem dX5_worstCar_82 : decode cX5_worstCar 82 = .ok (.iload 4, 2) := by decide +kernel
theorem dX5_worstCar_84 : decode cX5_worstCar 84 = .ok (.goto 4, 3) := by decide +kernel
theorem dX5_worstCar_87 : decode cX5_worstCar 87 = .ok (.iload_n 2, 1) := by decide +kernel
theorem dX5_worstCar_88 : decode cX5_worstCar 88 = .ok (.istore_n 2, 1) := by decide +kernel
theorem dX5_worstCar_89 : decode cX5_worstCar 89 = .ok (.iload 5, 2) := by decide +kernel
theorem dX5_worstCar_91 : decode cX5_worstCar 91 = .ok (.iload_n 3, 1) := by decide +kernel
theorem dX5_worstCar_92 : decode cX5_worstCar 92 = .ok (.if_icmp .le 8, 3) := by decide +kernel
theorem dX5_worstCar_95 : decode cX5_worstCar 95 = .ok (.iload 5, 2) := by decide +kernel
theorem dX5_worstCar_97 : decode cX5_worstCar 97 = .ok (.goto 4, 3) := by decide +kernel
theorem dX5_worstCar_100 : decode cX5_worstCar 100 = .ok (.iload_n 3, 1) := by decide +kernel
theorem dX5_worstCar_101 : decode cX5_worstCar 101 = .ok (.istore_n 3, 1) := by decide +kernel
theorem dX5_worstCar_102 : decode cX5_worstCar 102 = .ok (.iinc 4 1, 3) := by decide +kernel
theorem dX5_worstCar_105 : decode cX5_worstCar 105 = .ok (.goto (-85), 3) := by decide +kernel
theorem dX5_worstCar_108 : decode cX5_worstCar 108 = .ok (.iload_n 1, 1) := by decide +kernel
theorem dX5_worstCar_109 : decode cX5_worstCar 109 = .ok (.ifCond .ne 7, 3) := by decide +kernel
theorem dX5_worstCar_112 : decode cX5_worstCar 112 = .ok (.iload_n 2, 1) := by decide +kernel
theorem dX5_worstCar_113 : decode cX5_worstCar 113 = .ok (.goto 4, 3) := by decide +kernel
theorem dX5_worstCar_116 : decode cX5_worstCar 116 = .ok (.iload_n 3, 1) := by decide +kernel
theorem dX5_worstCar_117 : decode cX5_worstCar 117 = .ok (.ireturn, 1) := by decide +kernel
end
section
set_option maxRecDepth 20000 in
theorem ggL_law_X4_init : GoodIn wsL_law wsX4_init := goodIn_r _ [8, 9, 10, 11, 12, 13, 14, 15, 16, 17, 18, 19, 20, 21, 22, 23, 24, 25, 26, 27, 28, 29, 30, 31, 32, 33, 34, 35, 36, 37, 38, 39, 40, 41, 42, 43, 44, 45, 46, 47, 48, 49, 50, 51, 52, 53, 54, 55, 56, 57, 58, 59, 60, 61, 595, 596, 597, 598, 587, 588, 589, 599, 600, 601, 602, 603, 604, 605, 606, 607, 608, 609, 610, 611, 612, 613, 614, 615, 616, 617, 618] (by decide +kernel) (by decide +kernel)
set_option maxRecDepth 20000 in
theorem gL_law_X4_init : GoodIn wsL_law (wsX4_init) := ggL_law_X4_init
set_option maxRecDepth 20000 in
theorem ggL_law_X5_init : GoodIn wsL_law wsX5_init := goodIn_r _ [64, 65, 10, 11, 25, 66, 67, 68, 69, 590, 591, 592, 593, 594] (by decide +kernel) (by decide +kernel)
set_option maxRecDepth 20000 in
theorem gL_law_X5_init : GoodIn wsL_law (wsX5_init) := ggL_law_X5_init
set_option maxRecDepth 20000 in
theorem ggL_law_X4_addCar : GoodIn wsL_law wsX4_addCar := goodIn_r _ [73, 15, 74, 75, 20, 76, 77, 2, 78, 79, 80, 81, 19, 82, 60, 83, 84, 85, 86, 87, 88, 89, 90, 91, 14, 92, 93, 26, 94, 95, 96, 97, 30, 34, 98, 99, 100, 29, 101, 102, 103, 38, 104, 39, 40, 41, 42, 43, 105, 106, 107, 33, 108, 109, 47, 110, 48, 49, 50, 51, 52, 53, 54, 111, 112, 113, 114, 115, 116, 117, 118, 587, 588, 589, 595, 596, 597, 598, 602, 603, 604, 605, 606, 607, 608, 609, 599, 600, 601, 610, 611, 612, 613, 614, 615, 616, 617, 618] (by decide +kernel) (by decide +kernel)
set_option maxRecDepth 20000 in
theorem gL_law_X4_addCar : GoodIn wsL_law (wsV RL 13 RX4 yX4_addCar wsX4_addCar) := goodIn_app (goodIn_of _ (by decide +kernel)) ggL_law_X4_addCar
set_option maxRecDepth 20000 in
theorem ggL_law_X5_addCar : GoodIn wsL_law wsX5_addCar := goodIn_r _ [122, 66, 123, 124, 5, 125, 126, 127, 128, 129, 130, 67, 131, 132, 133, 134, 590, 591, 592, 593, 594] (by decide +kernel) (by decide +kernel)
set_option maxRecDepth 20000 in
theorem gL_law_X5_addCar : GoodIn wsL_law (wsV RL 17 RX5 yX5_addCar wsX5_addCar) := goodIn_app (goodIn_of _ (by decide +kernel)) ggL_law_X5_addCar
set_option maxRecDepth 20000 in
theorem ggL_law_X4_setAwake : GoodIn wsL_law wsX4_setAwake := goodIn_r _ [138, 20, 15, 139, 79, 80, 81, 19, 82, 60, 83, 84, 85, 86, 87, 88, 89, 90, 91, 14, 92, 93, 26, 94, 95, 96, 97, 30, 34, 98, 99, 100, 29, 101, 102, 103, 38, 104, 39, 40, 41, 42, 43, 105, 106, 107, 33, 108, 109, 47, 110, 48, 49, 50, 51, 52, 53, 54, 111, 112, 113, 114, 587, 588, 589, 595, 596, 597, 598, 599, 600, 601, 602, 603, 604, 605, 606, 607, 608, 609, 610, 611, 612, 613, 614, 615, 616, 617, 618] (by decide +kernel) (by decide +kernel)
set_option maxRecDepth 20000 in
theorem gL_law_X4_setAwake : GoodIn wsL_law (wsV RL 18 RX4 yX4_setAwake wsX4_setAwake) := goodIn_app (goodIn_of _ (by decide +kernel)) ggL_law_X4_setAwake
set_option maxRecDepth 20000 in
theorem ggL_law_X5_setAwake : GoodIn wsL_law wsX5_setAwake := goodIn_r _ [143, 66, 123, 124, 5, 125, 126, 127, 128, 129, 130, 67, 590, 591, 592, 593, 594] (by decide +kernel) (by decide +kernel)
set_option maxRecDepth 20000 in
theorem gL_law_X5_setAwake : GoodIn wsL_law (wsV RL 22 RX5 yX5_setAwake wsX5_setAwake) := goodIn_app (goodIn_of _ (by decide +kernel)) ggL_law_X5_setAwake
set_option maxRecDepth 20000 in
theorem ggL_law_X4_hold : GoodIn wsL_law wsX4_hold := goodIn_r _ [147, 15, 74, 148, 20, 149, 150, 151, 152, 29, 153, 102, 79, 80, 81, 19, 82, 60, 83, 84, 85, 86, 87, 88, 89, 90, 91, 14, 92, 93, 26, 94, 95, 96, 97, 30, 34, 98, 99, 100, 101, 103, 38, 104, 39, 40, 41, 42, 43, 105, 106, 107, 33, 108, 109, 47, 110, 48, 49, 50, 51, 52, 53, 54, 111, 112, 113, 114, 154, 155, 156, 157, 158, 159, 160, 161, 587, 588, 589, 595, 596, 597, 598, 602, 603, 604, 605, 606, 607, 608, 609, 599, 600, 601, 610, 611, 612, 613, 614, 615, 616, 617, 618] (by decide +kernel) (by decide +kernel)
set_option maxRecDepth 20000 in
theorem gL_law_X4_hold : GoodIn wsL_law (wsV RL 23 RX4 yX4_hold wsX4_hold) := goodIn_app (goodIn_of _ (by decide +kernel)) ggL_law_X4_hold
set_option maxRecDepth 20000 in
theorem ggL_law_X5_hold : GoodIn wsL_law wsX5_hold := goodIn_r _ [165, 166, 167, 168, 5, 169, 66, 123, 124, 125, 170, 171, 172, 173, 126, 127, 128, 129, 130, 67, 131, 132, 133, 134, 174, 175, 176, 177, 178, 179, 180, 181, 590, 591, 592, 593, 594] (by decide +kernel) (by decide +kernel)
set_option maxRecDepth 20000 in
theorem gL_law_X5_hold : GoodIn wsL_law (wsV RL 26 RX5 yX5_hold wsX5_hold) := goodIn_app (goodIn_of _ (by decide +kernel)) ggL_law_X5_hold
set_option maxRecDepth 20000 in
theorem ggL_law_X4_fail : GoodIn wsL_law wsX4_fail := goodIn_r _ [185, 15, 74, 148, 20, 149, 150, 151, 152, 29, 153, 102, 79, 80, 81, 19, 82, 60, 83, 84, 85, 86, 87, 88, 89, 90, 91, 14, 92, 93, 26, 94, 95, 96, 97, 30, 34, 98, 99, 100, 101, 103, 38, 104, 39, 40, 41, 42, 43, 105, 106, 107, 33, 108, 109, 47, 110, 48, 49, 50, 51, 52, 53, 54, 111, 112, 113, 114, 186, 187, 188, 189, 190, 191, 192, 193, 194, 195, 196, 197, 198, 199, 200, 201, 202, 203, 204, 205, 206, 207, 587, 588, 589, 595, 596, 597, 598, 602, 603, 604, 605, 606, 607, 608, 609, 599, 600, 601, 610, 611, 612, 613, 614, 615, 616, 617, 618] (by decide +kernel) (by decide +kernel)
set_option maxRecDepth 20000 in
theorem gL_law_X4_fail : GoodIn wsL_law (wsV RL 27 RX4 yX4_fail wsX4_fail) := goodIn_app (goodIn_of _ (by decide +kernel)) ggL_law_X4_fail
set_option maxRecDepth 20000 in
theorem ggL_law_X5_fail : GoodIn wsL_law wsX5_fail := goodIn_r _ [211, 166, 167, 168, 5, 169, 66, 170, 171, 172, 173, 126, 127, 128, 129, 130, 67, 212, 213, 214, 215, 178, 179, 180, 181, 123, 124, 125, 216, 217, 218, 219, 220, 221, 222, 223, 131, 132, 133, 134, 224, 225, 226, 227, 590, 591, 592, 593, 594] (by decide +kernel) (by decide +kernel)
set_option maxRecDepth 20000 in
theorem gL_law_X5_fail : GoodIn wsL_law (wsV RL 31 RX5 yX5_fail wsX5_fail) := goodIn_app (goodIn_of _ (by decide +kernel)) ggL_law_X5_fail
set_option maxRecDepth 20000 in
theorem ggL_law_X4_repair : GoodIn wsL_law wsX4_repair := goodIn_r _ [231, 15, 74, 148, 20, 232, 150, 151, 152, 29, 153, 102, 79, 80, 81, 19, 82, 60, 83, 84, 85, 86, 87, 88, 89, 90, 91, 14, 92, 93, 26, 94, 95, 96, 97, 30, 34, 98, 99, 100, 101, 103, 38, 104, 39, 40, 41, 42, 43, 105, 106, 107, 33, 108, 109, 47, 110, 48, 49, 50, 51, 52, 53, 54, 111, 112, 113, 114, 587, 588, 589, 595, 596, 597, 598, 602, 603, 604, 605, 606, 607, 608, 609, 599, 600, 601, 610, 611, 612, 613, 614, 615, 616, 617, 618] (by decide +kernel) (by decide +kernel)
set_option maxRecDepth 20000 in
theorem gL_law_X4_repair : GoodIn wsL_law (wsV RL 32 RX4 yX4_repair wsX4_repair) := goodIn_app (goodIn_of _ (by decide +kernel)) ggL_law_X4_repair
set_option maxRecDepth 20000 in
theorem ggL_law_X5_repair : GoodIn wsL_law wsX5_repair := goodIn_r _ [236, 166, 167, 168, 5, 169, 66, 170, 171, 172, 173, 126, 127, 128, 129, 130, 67, 131, 132, 133, 134, 590, 591, 592, 593, 594] (by decide +kernel) (by decide +kernel)
set_option maxRecDepth 20000 in
theorem gL_law_X5_repair : GoodIn wsL_law (wsV RL 35 RX5 yX5_repair wsX5_repair) := goodIn_app (goodIn_of _ (by decide +kernel)) ggL_law_X5_repair
set_option maxRecDepth 20000 in
theorem ggL_law_X4_call : GoodIn wsL_law wsX4_call := goodIn_r _ [240, 15, 149, 241, 20, 242, 243, 244, 2, 245, 76, 77, 78, 79, 80, 81, 19, 82, 60, 83, 84, 85, 86, 87, 88, 89, 90, 91, 14, 92, 93, 26, 94, 95, 96, 97, 30, 34, 98, 99, 100, 29, 101, 102, 103, 38, 104, 39, 40, 41, 42, 43, 105, 106, 107, 33, 108, 109, 47, 110, 48, 49, 50, 51, 52, 53, 54, 111, 112, 113, 114, 246, 247, 248, 249, 250, 251, 252, 253, 254, 190, 255, 256, 257, 258, 259, 260, 261, 262, 263, 264, 265, 266, 267, 268, 269, 270, 271, 191, 272, 273, 274, 275, 276, 277, 278, 200, 201, 202, 203, 196, 197, 198, 199, 279, 280, 281, 282, 283, 284, 285, 286, 155, 156, 157, 158, 159, 160, 161, 287, 288, 289, 290, 291, 292, 293, 294, 295, 296, 297, 298, 587, 588, 589, 595, 596, 597, 598, 610, 611, 612, 613, 614, 615, 616, 617, 618, 599, 600, 601, 602, 603, 604, 605, 606, 607, 608, 609] (by decide +kernel) (by decide +kernel)
set_option maxRecDepth 20000 in
theorem gL_law_X4_call : GoodIn wsL_law (wsV RL 36 RX4 yX4_call wsX4_call) := goodIn_app (goodIn_of _ (by decide +kernel)) ggL_law_X4_call
set_option maxRecDepth 20000 in
theorem ggL_law_X5_call : GoodIn wsL_law wsX5_call := goodIn_r _ [302, 66, 303, 304, 5, 305, 306, 307, 308, 123, 124, 125, 126, 127, 128, 129, 130, 67, 220, 221, 222, 223, 309, 310, 311, 312, 178, 179, 180, 181, 313, 314, 315, 316, 317, 318, 319, 320, 170, 171, 172, 173, 321, 322, 323, 324, 325, 326, 327, 328, 329, 330, 331, 332, 333, 334, 335, 336, 337, 338, 339, 340, 341, 342, 174, 175, 176, 177, 590, 591, 592, 593, 594] (by decide +kernel) (by decide +kernel)
set_option maxRecDepth 20000 in
theorem gL_law_X5_call : GoodIn wsL_law (wsV RL 39 RX5 yX5_call wsX5_call) := goodIn_app (goodIn_of _ (by decide +kernel)) ggL_law_X5_call
set_option maxRecDepth 20000 in
theorem ggL_law_X4_pass : GoodIn wsL_law wsX4_pass := goodIn_r _ [346, 15, 242, 20, 149, 79, 80, 81, 19, 82, 60, 83, 84, 85, 86, 87, 88, 89, 90, 91, 14, 92, 93, 26, 94, 95, 96, 97, 30, 34, 98, 99, 100, 29, 101, 102, 103, 38, 104, 39, 40, 41, 42, 43, 105, 106, 107, 33, 108, 109, 47, 110, 48, 49, 50, 51, 52, 53, 54, 111, 112, 113, 114, 347, 348, 349, 350, 351, 352, 353, 354, 250, 190, 355, 247, 248, 249, 251, 252, 253, 254, 255, 256, 257, 258, 259, 260, 261, 262, 263, 264, 265, 266, 267, 268, 269, 270, 271, 191, 272, 273, 274, 275, 276, 277, 278, 200, 201, 202, 203, 196, 197, 198, 199, 279, 280, 281, 282, 283, 284, 285, 286, 155, 156, 157, 158, 159, 160, 161, 356, 292, 293, 294, 295, 296, 297, 298, 357, 358, 359, 360, 361, 362, 363, 364, 365, 366, 367, 368, 369, 370, 371, 372, 373, 374, 375, 376, 377, 378, 379, 380, 381, 382, 204, 205, 206, 207, 587, 588, 589, 595, 596, 597, 598, 599, 600, 601, 602, 603, 604, 605, 606, 607, 608, 609, 610, 611, 612, 613, 614, 615, 616, 617, 618] (by decide +kernel) (by decide +kernel)
set_option maxRecDepth 20000 in
theorem gL_law_X4_pass : GoodIn wsL_law (wsV RL 40 RX4 yX4_pass wsX4_pass) := goodIn_app (goodIn_of _ (by decide +kernel)) ggL_law_X4_pass
set_option maxRecDepth 20000 in
theorem ggL_law_X5_pass : GoodIn wsL_law wsX5_pass := goodIn_r _ [386, 66, 123, 124, 5, 125, 126, 127, 128, 129, 130, 67, 387, 388, 389, 390, 178, 179, 180, 181, 309, 310, 311, 312, 313, 314, 315, 316, 317, 318, 319, 320, 170, 171, 172, 173, 321, 322, 323, 324, 325, 326, 327, 328, 329, 330, 331, 332, 333, 334, 335, 336, 337, 338, 339, 340, 341, 342, 174, 175, 176, 177, 220, 221, 222, 223, 391, 392, 393, 394, 395, 396, 397, 398, 216, 217, 218, 219, 399, 400, 401, 402, 403, 404, 405, 406, 131, 132, 133, 134, 224, 225, 226, 227, 590, 591, 592, 593, 594] (by decide +kernel) (by decide +kernel)
set_option maxRecDepth 20000 in
theorem gL_law_X5_pass : GoodIn wsL_law (wsV RL 43 RX5 yX5_pass wsX5_pass) := goodIn_app (goodIn_of _ (by decide +kernel)) ggL_law_X5_pass
set_option maxRecDepth 20000 in
theorem ggL_law_X4_undo : GoodIn wsL_law wsX4_undo := goodIn_r _ [410, 20, 411, 15, 412, 413, 414, 19, 415, 83, 60, 84, 111, 112, 113, 114, 89, 90, 91, 14, 92, 93, 26, 94, 95, 96, 97, 30, 34, 98, 99, 100, 29, 101, 102, 103, 38, 104, 39, 40, 41, 42, 43, 105, 106, 107, 33, 108, 109, 47, 110, 48, 49, 50, 51, 52, 53, 54, 587, 588, 589, 599, 600, 601, 595, 596, 597, 598, 602, 603, 604, 605, 606, 607, 608, 609, 610, 611, 612, 613, 614, 615, 616, 617, 618] (by decide +kernel) (by decide +kernel)
set_option maxRecDepth 20000 in
theorem gL_law_X4_undo : GoodIn wsL_law (wsV RL 44 RX4 yX4_undo wsX4_undo) := goodIn_app (goodIn_of _ (by decide +kernel)) ggL_law_X4_undo
set_option maxRecDepth 20000 in
theorem ggL_law_X5_undo : GoodIn wsL_law wsX5_undo := goodIn_r _ [419, 130, 66, 67, 590, 591, 592, 593, 594] (by decide +kernel) (by decide +kernel)
set_option maxRecDepth 20000 in
theorem gL_law_X5_undo : GoodIn wsL_law (wsV RL 48 RX5 yX5_undo wsX5_undo) := goodIn_app (goodIn_of _ (by decide +kernel)) ggL_law_X5_undo
set_option maxRecDepth 20000 in
theorem ggL_law_X4_count : GoodIn wsL_law wsX4_count := goodIn_r _ [423, 15, 242, 74, 75, 149, 241, 424, 20, 411, 425, 260, 261, 14, 262, 93, 263, 112, 113, 114, 204, 205, 206, 33, 207, 109, 49, 426, 427, 428, 429, 430, 431, 432, 433, 434, 435, 436, 437, 47, 48, 438, 439, 440, 441, 442, 443, 444, 29, 445, 102, 43, 446, 447, 448, 449, 42, 587, 588, 589, 595, 596, 597, 598, 602, 603, 604, 605, 606, 607, 608, 609, 610, 611, 612, 613, 614, 615, 616, 617, 618, 599, 600, 601] (by decide +kernel) (by decide +kernel)
set_option maxRecDepth 20000 in
theorem gL_law_X4_count : GoodIn wsL_law (wsV RL 49 RX4 yX4_count wsX4_count) := goodIn_app (goodIn_of _ (by decide +kernel)) ggL_law_X4_count
set_option maxRecDepth 20000 in
theorem ggL_law_X5_count : GoodIn wsL_law wsX5_count := goodIn_r _ [453, 66, 130, 325, 326, 327, 5, 328, 224, 225, 226, 227, 178, 179, 180, 181, 454, 455, 456, 457, 458, 459, 460, 461, 462, 463, 464, 465, 466, 467, 468, 469, 470, 471, 472, 473, 170, 171, 172, 173, 590, 591, 592, 593, 594] (by decide +kernel) (by decide +kernel)
set_option maxRecDepth 20000 in
theorem gL_law_X5_count : GoodIn wsL_law (wsV RL 52 RX5 yX5_count wsX5_count) := goodIn_app (goodIn_of _ (by decide +kernel)) ggL_law_X5_count
set_option maxRecDepth 20000 in
theorem ggL_law_X4_car : GoodIn wsL_law wsX4_car := goodIn_r _ [477, 15, 74, 232, 148, 149, 478, 150, 151, 152, 29, 153, 102, 479, 159, 160, 33, 161, 109, 49, 50, 480, 276, 277, 278, 47, 48, 200, 201, 202, 203, 196, 197, 198, 199, 481, 280, 281, 282, 283, 284, 285, 482, 372, 373, 374, 375, 376, 377, 378, 273, 87, 274, 483, 256, 257, 14, 258, 26, 259, 260, 261, 262, 93, 263, 112, 113, 114, 587, 588, 589, 595, 596, 597, 598, 602, 603, 604, 605, 606, 607, 608, 609, 610, 611, 612, 613, 614, 615, 616, 617, 618] (by decide +kernel) (by decide +kernel)
set_option maxRecDepth 20000 in
theorem gL_law_X4_car : GoodIn wsL_law (wsV RL 53 RX4 yX4_car wsX4_car) := goodIn_app (goodIn_of _ (by decide +kernel)) ggL_law_X4_car
set_option maxRecDepth 20000 in
theorem ggL_law_X5_car : GoodIn wsL_law wsX5_car := goodIn_r _ [487, 166, 167, 168, 5, 169, 66, 170, 171, 172, 173, 174, 175, 176, 177, 178, 179, 180, 181, 333, 334, 335, 336, 123, 124, 125, 337, 338, 339, 391, 392, 393, 394, 340, 341, 342, 321, 322, 323, 324, 325, 326, 327, 328, 590, 591, 592, 593, 594] (by decide +kernel) (by decide +kernel)
set_option maxRecDepth 20000 in
theorem gL_law_X5_car : GoodIn wsL_law (wsV RL 56 RX5 yX5_car wsX5_car) := goodIn_app (goodIn_of _ (by decide +kernel)) ggL_law_X5_car
set_option maxRecDepth 20000 in
theorem ggL_law_X4_caller : GoodIn wsL_law wsX4_caller := goodIn_r _ [491, 15, 149, 492, 493, 494, 495, 496, 497, 498, 499, 500, 296, 297, 33, 298, 109, 587, 588, 589, 595, 596, 597, 598, 610, 611, 612, 613, 614, 615, 616, 617, 618] (by decide +kernel) (by decide +kernel)
set_option maxRecDepth 20000 in
theorem gL_law_X4_caller : GoodIn wsL_law (wsV RL 57 RX4 yX4_caller wsX4_caller) := goodIn_app (goodIn_of _ (by decide +kernel)) ggL_law_X4_caller
set_option maxRecDepth 20000 in
theorem ggL_law_X5_caller : GoodIn wsL_law wsX5_caller := goodIn_r _ [504, 505, 506, 507, 5, 508, 66, 123, 124, 125, 178, 179, 180, 181, 590, 591, 592, 593, 594] (by decide +kernel) (by decide +kernel)
set_option maxRecDepth 20000 in
theorem gL_law_X5_caller : GoodIn wsL_law (wsV RL 60 RX5 yX5_caller wsX5_caller) := goodIn_app (goodIn_of _ (by decide +kernel)) ggL_law_X5_caller
set_option maxRecDepth 20000 in
theorem ggL_law_X4_group : GoodIn wsL_law wsX4_group := goodIn_r _ [512, 15, 149, 492, 493, 513, 514, 515, 33, 516, 109, 430, 431, 432, 433, 434, 435, 436, 437, 47, 48, 438, 439, 440, 441, 49, 500, 296, 297, 298, 517, 518, 519, 520, 587, 588, 589, 595, 596, 597, 598, 610, 611, 612, 613, 614, 615, 616, 617, 618] (by decide +kernel) (by decide +kernel)
set_option maxRecDepth 20000 in
theorem gL_law_X4_group : GoodIn wsL_law (wsV RL 61 RX4 yX4_group wsX4_group) := goodIn_app (goodIn_of _ (by decide +kernel)) ggL_law_X4_group
set_option maxRecDepth 20000 in
theorem ggL_law_X5_group : GoodIn wsL_law wsX5_group := goodIn_r _ [524, 66, 123, 124, 5, 125, 458, 459, 460, 461, 462, 463, 464, 465, 178, 179, 180, 181, 466, 467, 468, 469, 590, 591, 592, 593, 594] (by decide +kernel) (by decide +kernel)
set_option maxRecDepth 20000 in
theorem gL_law_X5_group : GoodIn wsL_law (wsV RL 64 RX5 yX5_group wsX5_group) := goodIn_app (goodIn_of _ (by decide +kernel)) ggL_law_X5_group
set_option maxRecDepth 20000 in
theorem ggL_law_X4_cost : GoodIn wsL_law wsX4_cost := goodIn_r _ [528, 15, 74, 150, 151, 152, 29, 153, 102, 243, 244, 2, 245, 76, 77, 78, 529, 252, 253, 14, 254, 30, 190, 255, 256, 257, 258, 26, 259, 260, 261, 262, 93, 263, 112, 113, 114, 264, 265, 266, 267, 38, 39, 530, 269, 270, 271, 191, 272, 273, 87, 274, 34, 275, 276, 277, 33, 278, 109, 47, 48, 200, 201, 202, 203, 49, 50, 196, 197, 198, 199, 279, 280, 281, 282, 283, 284, 285, 286, 155, 156, 157, 158, 159, 160, 161, 587, 588, 589, 595, 596, 597, 598, 602, 603, 604, 605, 606, 607, 608, 609, 610, 611, 612, 613, 614, 615, 616, 617, 618] (by decide +kernel) (by decide +kernel)
set_option maxRecDepth 20000 in
theorem gL_law_X4_cost : GoodIn wsL_law (wsV RL 65 RX4 yX4_cost wsX4_cost) := goodIn_app (goodIn_of _ (by decide +kernel)) ggL_law_X4_cost
set_option maxRecDepth 20000 in
theorem ggL_law_X5_cost : GoodIn wsL_law wsX5_cost := goodIn_r _ [534, 166, 167, 168, 5, 169, 66, 303, 304, 305, 306, 307, 308, 123, 124, 125, 317, 318, 319, 320, 170, 171, 172, 173, 321, 322, 323, 324, 325, 326, 327, 328, 329, 330, 331, 332, 333, 334, 335, 336, 178, 179, 180, 181, 337, 338, 339, 340, 341, 342, 174, 175, 176, 177, 590, 591, 592, 593, 594] (by decide +kernel) (by decide +kernel)
set_option maxRecDepth 20000 in
theorem gL_law_X5_cost : GoodIn wsL_law (wsV RL 68 RX5 yX5_cost wsX5_cost) := goodIn_app (goodIn_of _ (by decide +kernel)) ggL_law_X5_cost
set_option maxRecDepth 20000 in
theorem ggL_law_X4_would : GoodIn wsL_law wsX4_would := goodIn_r _ [538, 15, 243, 244, 2, 245, 76, 77, 78, 246, 247, 248, 14, 249, 30, 250, 251, 252, 253, 254, 190, 255, 256, 257, 258, 26, 259, 260, 261, 262, 93, 263, 112, 113, 114, 264, 265, 266, 29, 267, 38, 39, 268, 269, 270, 271, 191, 272, 273, 87, 274, 34, 275, 276, 277, 33, 278, 109, 47, 48, 200, 201, 202, 203, 49, 50, 196, 197, 198, 199, 279, 280, 281, 282, 283, 284, 285, 286, 155, 156, 157, 158, 159, 160, 161, 587, 588, 589, 595, 596, 597, 598, 602, 603, 604, 605, 606, 607, 608, 609, 610, 611, 612, 613, 614, 615, 616, 617, 618] (by decide +kernel) (by decide +kernel)
set_option maxRecDepth 20000 in
theorem gL_law_X4_would : GoodIn wsL_law (wsV RL 69 RX4 yX4_would wsX4_would) := goodIn_app (goodIn_of _ (by decide +kernel)) ggL_law_X4_would
set_option maxRecDepth 20000 in
theorem ggL_law_X5_would : GoodIn wsL_law wsX5_would := goodIn_r _ [542, 303, 304, 5, 305, 306, 307, 308, 123, 124, 125, 313, 314, 315, 316, 66, 317, 318, 319, 320, 170, 171, 172, 173, 321, 322, 323, 324, 325, 326, 327, 328, 329, 330, 331, 332, 333, 334, 335, 336, 178, 179, 180, 181, 337, 338, 339, 340, 341, 342, 174, 175, 176, 177, 590, 591, 592, 593, 594] (by decide +kernel) (by decide +kernel)
set_option maxRecDepth 20000 in
theorem gL_law_X5_would : GoodIn wsL_law (wsV RL 72 RX5 yX5_would wsX5_would) := goodIn_app (goodIn_of _ (by decide +kernel)) ggL_law_X5_would
set_option maxRecDepth 20000 in
theorem ggL_law_X4_thereIn : GoodIn wsL_law wsX4_thereIn := goodIn_r _ [546, 15, 149, 16, 494, 500, 296, 297, 33, 298, 109, 547, 90, 91, 14, 92, 93, 26, 94, 95, 96, 97, 30, 34, 98, 99, 100, 29, 101, 102, 103, 38, 104, 39, 40, 41, 42, 43, 105, 106, 107, 108, 47, 110, 48, 49, 50, 51, 52, 53, 54, 347, 348, 349, 350, 351, 352, 353, 354, 250, 190, 355, 247, 248, 249, 251, 252, 253, 254, 255, 256, 257, 258, 259, 260, 261, 262, 263, 112, 113, 114, 264, 265, 266, 267, 268, 269, 270, 271, 191, 272, 273, 87, 274, 275, 276, 277, 278, 200, 201, 202, 203, 196, 197, 198, 199, 279, 280, 281, 282, 283, 284, 285, 286, 155, 156, 157, 158, 159, 160, 161, 356, 292, 293, 294, 295, 357, 358, 359, 360, 361, 362, 363, 364, 365, 366, 367, 368, 369, 370, 371, 372, 373, 374, 375, 376, 377, 378, 379, 380, 381, 382, 587, 588, 589, 595, 596, 597, 598, 610, 611, 612, 613, 614, 615, 616, 617, 618, 602, 603, 604, 605, 606, 607, 608, 609] (by decide +kernel) (by decide +kernel)
set_option maxRecDepth 20000 in
theorem gL_law_X4_thereIn : GoodIn wsL_law (wsV RL 73 RX4 yX4_thereIn wsX4_thereIn) := goodIn_app (goodIn_of _ (by decide +kernel)) ggL_law_X4_thereIn
set_option maxRecDepth 20000 in
theorem ggL_law_X5_thereIn : GoodIn wsL_law wsX5_thereIn := goodIn_r _ [551, 66, 68, 505, 506, 507, 5, 508, 552, 553, 554, 178, 179, 180, 181, 387, 388, 389, 390, 309, 310, 311, 312, 313, 314, 315, 316, 317, 318, 319, 320, 170, 171, 172, 173, 321, 322, 323, 324, 325, 326, 327, 328, 123, 124, 125, 329, 330, 331, 332, 333, 334, 335, 336, 337, 338, 339, 340, 341, 342, 174, 175, 176, 177, 220, 221, 222, 223, 391, 392, 393, 394, 395, 396, 397, 398, 216, 217, 218, 219, 399, 400, 401, 402, 403, 404, 405, 406, 131, 132, 133, 134, 590, 591, 592, 593, 594] (by decide +kernel) (by decide +kernel)
set_option maxRecDepth 20000 in
theorem gL_law_X5_thereIn : GoodIn wsL_law (wsV RL 76 RX5 yX5_thereIn wsX5_thereIn) := goodIn_app (goodIn_of _ (by decide +kernel)) ggL_law_X5_thereIn
set_option maxRecDepth 20000 in
theorem ggL_law_X4_waits : GoodIn wsL_law wsX4_waits := goodIn_r _ [558, 15, 149, 241, 242, 559, 560, 561, 33, 562, 49, 52, 51, 587, 588, 589, 595, 596, 597, 598, 610, 611, 612, 613, 614, 615, 616, 617, 618] (by decide +kernel) (by decide +kernel)
set_option maxRecDepth 20000 in
theorem gL_law_X4_waits : GoodIn wsL_law (wsV RL 77 RX4 yX4_waits wsX4_waits) := goodIn_app (goodIn_of _ (by decide +kernel)) ggL_law_X4_waits
set_option maxRecDepth 20000 in
theorem ggL_law_X5_waits : GoodIn wsL_law wsX5_waits := goodIn_r _ [566, 66, 123, 124, 5, 125, 567, 568, 569, 570, 178, 179, 180, 181, 590, 591, 592, 593, 594] (by decide +kernel) (by decide +kernel)
set_option maxRecDepth 20000 in
theorem gL_law_X5_waits : GoodIn wsL_law (wsV RL 80 RX5 yX5_waits wsX5_waits) := goodIn_app (goodIn_of _ (by decide +kernel)) ggL_law_X5_waits
set_option maxRecDepth 20000 in
theorem ggL_law_X4_worstCar : GoodIn wsL_law wsX4_worstCar := goodIn_r _ [574, 15, 74, 75, 148, 575, 576, 577, 2, 578, 16, 149, 241, 547, 90, 91, 14, 92, 93, 26, 94, 95, 96, 97, 30, 34, 98, 99, 100, 29, 101, 102, 103, 38, 104, 39, 40, 41, 42, 43, 105, 106, 107, 33, 108, 109, 47, 110, 48, 49, 50, 51, 52, 53, 54, 186, 187, 188, 189, 190, 191, 192, 193, 194, 195, 196, 197, 198, 199, 200, 201, 202, 203, 204, 205, 206, 207, 347, 348, 349, 350, 351, 352, 353, 354, 250, 355, 247, 248, 249, 251, 252, 253, 254, 255, 256, 257, 258, 259, 260, 261, 262, 263, 112, 113, 114, 264, 265, 266, 267, 268, 269, 270, 271, 272, 273, 87, 274, 275, 276, 277, 278, 279, 280, 281, 282, 283, 284, 285, 286, 155, 156, 157, 158, 159, 160, 161, 356, 292, 293, 294, 295, 296, 297, 298, 357, 358, 359, 360, 361, 362, 363, 364, 365, 366, 367, 368, 369, 370, 371, 372, 373, 374, 375, 376, 377, 378, 379, 380, 381, 382, 587, 588, 589, 595, 596, 597, 598, 602, 603, 604, 605, 606, 607, 608, 609, 610, 611, 612, 613, 614, 615, 616, 617, 618] (by decide +kernel) (by decide +kernel)
set_option maxRecDepth 20000 in
theorem gL_law_X4_worstCar : GoodIn wsL_law (wsV RL 81 RX4 yX4_worstCar wsX4_worstCar) := goodIn_app (goodIn_of _ (by decide +kernel)) ggL_law_X4_worstCar
set_option maxRecDepth 20000 in
theorem ggL_law_X5_worstCar : GoodIn wsL_law wsX5_worstCar := goodIn_r _ [582, 66, 69, 123, 124, 5, 125, 170, 171, 172, 173, 552, 553, 554, 212, 213, 214, 215, 178, 179, 180, 181, 216, 217, 218, 219, 220, 221, 222, 223, 131, 132, 133, 134, 583, 584, 585, 586, 224, 225, 226, 227, 387, 388, 389, 390, 309, 310, 311, 312, 313, 314, 315, 316, 317, 318, 319, 320, 321, 322, 323, 324, 325, 326, 327, 328, 329, 330, 331, 332, 333, 334, 335, 336, 337, 338, 339, 340, 341, 342, 174, 175, 176, 177, 391, 392, 393, 394, 395, 396, 397, 398, 399, 400, 401, 402, 403, 404, 405, 406, 590, 591, 592, 593, 594] (by decide +kernel) (by decide +kernel)
set_option maxRecDepth 20000 in
theorem gL_law_X5_worstCar : GoodIn wsL_law (wsV RL 84 RX5 yX5_worstCar wsX5_worstCar) := goodIn_app (goodIn_of _ (by decide +kernel)) ggL_law_X5_worstCar
theorem dL_law_0 : decode cL_law 0 = .ok (.new 7, 3) := by decide +kernel
theorem dL_law_3 : decode cL_law 3 = .ok (.dup, 1) := by decide +kernel
theorem dL_law_4 : decode cL_law 4 = .ok (.invokespecial 9, 3) := by decide +kernel
theorem dL_law_7 : decode cL_law 7 = .ok (.astore_n 1, 1) := by decide +kernel
theorem dL_law_8 : decode cL_law 8 = .ok (.new 10, 3) := by decide +kernel
theorem dL_law_11 : decode cL_law 11 = .ok (.dup, 1) := by decide +kernel
theorem dL_law_12 : decode cL_law 12 = .ok (.invokespecial 12, 3) := by decide +kernel
theorem dL_law_15 : decode cL_law 15 = .ok (.astore_n 2, 1) := by decide +kernel
theorem dL_law_16 : decode cL_law 16 = .ok (.iconst 0, 1) := by decide +kernel
theorem dL_law_17 : decode cL_law 17 = .ok (.istore_n 3, 1) := by decide +kernel
theorem dL_law_18 : decode cL_law 18 = .ok (.iload_n 3, 1) := by decide +kernel
theorem dL_law_19 : decode cL_law 19 = .ok (.aload_n 0, 1) := by decide +kernel
theorem dL_law_20 : decode cL_law 20 = .ok (.arraylength, 1) := by decide +kernel
theorem dL_law_21 : decode cL_law 21 = .ok (.iconst 4, 1) := by decide +kernel
theorem dL_law_22 : decode cL_law 22 = .ok (.isub, 1) := by decide +kernel
theorem dL_law_23 : decode cL_law 23 = .ok (.if_icmp .gt 590, 3) := by decide +kernel
theorem dL_law_26 : decode cL_law 26 = .ok (.aload_n 0, 1) := by decide +kernel
theorem dL_law_27 : decode cL_law 27 = .ok (.iload_n 3, 1) := by decide +kernel
theorem dL_law_28 : decode cL_law 28 = .ok (.iaload, 1) := by decide +kernel
theorem dL_law_29 : decode cL_law 29 = .ok (.bipush 31, 2) := by decide +kernel
theorem dL_law_31 : decode cL_law 31 = .ok (.iand, 1) := by decide +kernel
theorem dL_law_32 : decode cL_law 32 = .ok (.tableswitch 575 0 16 #[84, 127, 160, 193, 216, 239, 272, 295, 308, 331, 364, 397, 430, 473, 506, 529, 552], 84) := by decide +kernel
theorem dL_law_116 : decode cL_law 116 = .ok (.aload_n 1, 1) := by decide +kernel
theorem dL_law_117 : decode cL_law 117 = .ok (.aload_n 0, 1) := by decide +kernel
theorem dL_law_118 : decode cL_law 118 = .ok (.iload_n 3, 1) := by decide +kernel
theorem dL_law_119 : decode cL_law 119 = .ok (.iconst 1, 1) := by decide +kernel
theorem dL_law_120 : decode cL_law 120 = .ok (.iadd, 1) := by decide +kernel
theorem dL_law_121 : decode cL_law 121 = .ok (.iaload, 1) := by decide +kernel
theorem dL_law_122 : decode cL_law 122 = .ok (.aload_n 0, 1) := by decide +kernel
theorem dL_law_123 : decode cL_law 123 = .ok (.iload_n 3, 1) := by decide +kernel
theorem dL_law_124 : decode cL_law 124 = .ok (.iconst 2, 1) := by decide +kernel
theorem dL_law_125 : decode cL_law 125 = .ok (.iadd, 1) := by decide +kernel
theorem dL_law_126 : decode cL_law 126 = .ok (.iaload, 1) := by decide +kernel
theorem dL_law_127 : decode cL_law 127 = .ok (.aload_n 0, 1) := by decide +kernel
theorem dL_law_128 : decode cL_law 128 = .ok (.iload_n 3, 1) := by decide +kernel
theorem dL_law_129 : decode cL_law 129 = .ok (.iconst 3, 1) := by decide +kernel
theorem dL_law_130 : decode cL_law 130 = .ok (.iadd, 1) := by decide +kernel
theorem dL_law_131 : decode cL_law 131 = .ok (.iaload, 1) := by decide +kernel
theorem dL_law_132 : decode cL_law 132 = .ok (.invokevirtual 13, 3) := by decide +kernel
theorem dL_law_135 : decode cL_law 135 = .ok (.aload_n 2, 1) := by decide +kernel
theorem dL_law_136 : decode cL_law 136 = .ok (.aload_n 0, 1) := by decide +kernel
theorem dL_law_137 : decode cL_law 137 = .ok (.iload_n 3, 1) := by decide +kernel
theorem dL_law_138 : decode cL_law 138 = .ok (.iconst 1, 1) := by decide +kernel
theorem dL_law_139 : decode cL_law 139 = .ok (.iadd, 1) := by decide +kernel
theorem dL_law_140 : decode cL_law 140 = .ok (.iaload, 1) := by decide +kernel
theorem dL_law_141 : decode cL_law 141 = .ok (.aload_n 0, 1) := by decide +kernel
theorem dL_law_142 : decode cL_law 142 = .ok (.iload_n 3, 1) := by decide +kernel
theorem dL_law_143 : decode cL_law 143 = .ok (.iconst 2, 1) := by decide +kernel
theorem dL_law_144 : decode cL_law 144 = .ok (.iadd, 1) := by decide +kernel
theorem dL_law_145 : decode cL_law 145 = .ok (.iaload, 1) := by decide +kernel
theorem dL_law_146 : decode cL_law 146 = .ok (.aload_n 0, 1) := by decide +kernel
theorem dL_law_147 : decode cL_law 147 = .ok (.iload_n 3, 1) := by decide +kernel
theorem dL_law_148 : decode cL_law 148 = .ok (.iconst 3, 1) := by decide +kernel
theorem dL_law_149 : decode cL_law 149 = .ok (.iadd, 1) := by decide +kernel
theorem dL_law_150 : decode cL_law 150 = .ok (.iaload, 1) := by decide +kernel
theorem dL_law_151 : decode cL_law 151 = .ok (.invokevirtual 17, 3) := by decide +kernel
theorem dL_law_154 : decode cL_law 154 = .ok (.if_icmp .eq 453, 3) := by decide +kernel
theorem dL_law_157 : decode cL_law 157 = .ok (.iconst 0, 1) := by decide +kernel
theorem dL_law_158 : decode cL_law 158 = .ok (.ireturn, 1) := by decide +kernel
theorem dL_law_159 : decode cL_law 159 = .ok (.aload_n 1, 1) := by decide +kernel
theorem dL_law_160 : decode cL_law 160 = .ok (.aload_n 0, 1) := by decide +kernel
theorem dL_law_161 : decode cL_law 161 = .ok (.iload_n 3, 1) := by decide +kernel
theorem dL_law_162 : decode cL_law 162 = .ok (.iconst 1, 1) := by decide +kernel
theorem dL_law_163 : decode cL_law 163 = .ok (.iadd, 1) := by decide +kernel
theorem dL_law_164 : decode cL_law 164 = .ok (.iaload, 1) := by decide +kernel
theorem dL_law_165 : decode cL_law 165 = .ok (.aload_n 0, 1) := by decide +kernel
theorem dL_law_166 : decode cL_law 166 = .ok (.iload_n 3, 1) := by decide +kernel
theorem dL_law_167 : decode cL_law 167 = .ok (.iconst 2, 1) := by decide +kernel
theorem dL_law_168 : decode cL_law 168 = .ok (.iadd, 1) := by decide +kernel
theorem dL_law_169 : decode cL_law 169 = .ok (.iaload, 1) := by decide +kernel
theorem dL_law_170 : decode cL_law 170 = .ok (.invokevirtual 18, 3) := by decide +kernel
theorem dL_law_173 : decode cL_law 173 = .ok (.aload_n 2, 1) := by decide +kernel
theorem dL_law_174 : decode cL_law 174 = .ok (.aload_n 0, 1) := by decide +kernel
theorem dL_law_175 : decode cL_law 175 = .ok (.iload_n 3, 1) := by decide +kernel
theorem dL_law_176 : decode cL_law 176 = .ok (.iconst 1, 1) := by decide +kernel
theorem dL_law_177 : decode cL_law 177 = .ok (.iadd, 1) := by decide +kernel
theorem dL_law_178 : decode cL_law 178 = .ok (.iaload, 1) := by decide +kernel
theorem dL_law_179 : decode cL_law 179 = .ok (.aload_n 0, 1) := by decide +kernel
theorem dL_law_180 : decode cL_law 180 = .ok (.iload_n 3, 1) := by decide +kernel
theorem dL_law_181 : decode cL_law 181 = .ok (.iconst 2, 1) := by decide +kernel
theorem dL_law_182 : decode cL_law 182 = .ok (.iadd, 1) := by decide +kernel
theorem dL_law_183 : decode cL_law 183 = .ok (.iaload, 1) := by decide +kernel
theorem dL_law_184 : decode cL_law 184 = .ok (.invokevirtual 22, 3) := by decide +kernel
theorem dL_law_187 : decode cL_law 187 = .ok (.if_icmp .eq 420, 3) := by decide +kernel
theorem dL_law_190 : decode cL_law 190 = .ok (.iconst 0, 1) := by decide +kernel
theorem dL_law_191 : decode cL_law 191 = .ok (.ireturn, 1) := by decide +kernel
theorem dL_law_192 : decode cL_law 192 = .ok (.aload_n 1, 1) := by decide +kernel
theorem dL_law_193 : decode cL_law 193 = .ok (.aload_n 0, 1) := by decide +kernel
theorem dL_law_194 : decode cL_law 194 = .ok (.iload_n 3, 1) := by decide +kernel
theorem dL_law_195 : decode cL_law 195 = .ok (.iconst 1, 1) := by decide +kernel
theorem dL_law_196 : decode cL_law 196 = .ok (.iadd, 1) := by decide +kernel
theorem dL_law_197 : decode cL_law 197 = .ok (.iaload, 1) := by decide +kernel
theorem dL_law_198 : decode cL_law 198 = .ok (.aload_n 0, 1) := by decide +kernel
theorem dL_law_199 : decode cL_law 199 = .ok (.iload_n 3, 1) := by decide +kernel
theorem dL_law_200 : decode cL_law 200 = .ok (.iconst 2, 1) := by decide +kernel
theorem dL_law_201 : decode cL_law 201 = .ok (.iadd, 1) := by decide +kernel
theorem dL_law_202 : decode cL_law 202 = .ok (.iaload, 1) := by decide +kernel
theorem dL_law_203 : decode cL_law 203 = .ok (.invokevirtual 23, 3) := by decide +kernel
theorem dL_law_206 : decode cL_law 206 = .ok (.aload_n 2, 1) := by decide +kernel
theorem dL_law_207 : decode cL_law 207 = .ok (.aload_n 0, 1) := by decide +kernel
theorem dL_law_208 : decode cL_law 208 = .ok (.iload_n 3, 1) := by decide +kernel
theorem dL_law_209 : decode cL_law 209 = .ok (.iconst 1, 1) := by decide +kernel
theorem dL_law_210 : decode cL_law 210 = .ok (.iadd, 1) := by decide +kernel
theorem dL_law_211 : decode cL_law 211 = .ok (.iaload, 1) := by decide +kernel
theorem dL_law_212 : decode cL_law 212 = .ok (.aload_n 0, 1) := by decide +kernel
theorem dL_law_213 : decode cL_law 213 = .ok (.iload_n 3, 1) := by decide +kernel
theorem dL_law_214 : decode cL_law 214 = .ok (.iconst 2, 1) := by decide +kernel
theorem dL_law_215 : decode cL_law 215 = .ok (.iadd, 1) := by decide +kernel
theorem dL_law_216 : decode cL_law 216 = .ok (.iaload, 1) := by decide +kernel
theorem dL_law_217 : decode cL_law 217 = .ok (.invokevirtual 26, 3) := by decide +kernel
theorem dL_law_220 : decode cL_law 220 = .ok (.if_icmp .eq 387, 3) := by decide +kernel
theorem dL_law_223 : decode cL_law 223 = .ok (.iconst 0, 1) := by decide +kernel
theorem dL_law_224 : decode cL_law 224 = .ok (.ireturn, 1) := by decide +kernel
theorem dL_law_225 : decode cL_law 225 = .ok (.aload_n 1, 1) := by decide +kernel
theorem dL_law_226 : decode cL_law 226 = .ok (.aload_n 0, 1) := by decide +kernel
theorem dL_law_227 : decode cL_law 227 = .ok (.iload_n 3, 1) := by decide +kernel
theorem dL_law_228 : decode cL_law 228 = .ok (.iconst 1, 1) := by decide +kernel
theorem dL_law_229 : decode cL_law 229 = .ok (.iadd, 1) := by decide +kernel
theorem dL_law_230 : decode cL_law 230 = .ok (.iaload, 1) := by decide +kernel
theorem dL_law_231 : decode cL_law 231 = .ok (.invokevirtual 27, 3) := by decide +kernel
theorem dL_law_234 : decode cL_law 234 = .ok (.aload_n 2, 1) := by decide +kernel
theorem dL_law_235 : decode cL_law 235 = .ok (.aload_n 0, 1) := by decide +kernel
theorem dL_law_236 : decode cL_law 236 = .ok (.iload_n 3, 1) := by decide +kernel
theorem dL_law_237 : decode cL_law 237 = .ok (.iconst 1, 1) := by decide +kernel
theorem dL_law_238 : decode cL_law 238 = .ok (.iadd, 1) := by decide +kernel
theorem dL_law_239 : decode cL_law 239 = .ok (.iaload, 1) := by decide +kernel
theorem dL_law_240 : decode cL_law 240 = .ok (.invokevirtual 31, 3) := by decide +kernel
theorem dL_law_243 : decode cL_law 243 = .ok (.if_icmp .eq 364, 3) := by decide +kernel
theorem dL_law_246 : decode cL_law 246 = .ok (.iconst 0, 1) := by decide +kernel
theorem dL_law_247 : decode cL_law 247 = .ok (.ireturn, 1) := by decide +kernel
theorem dL_law_248 : decode cL_law 248 = .ok (.aload_n 1, 1) := by decide +kernel
theorem dL_law_249 : decode cL_law 249 = .ok (.aload_n 0, 1) := by decide +kernel
theorem dL_law_250 : decode cL_law 250 = .ok (.iload_n 3, 1) := by decide +kernel
theorem dL_law_251 : decode cL_law 251 = .ok (.iconst 1, 1) := by decide +kernel
theorem dL_law_252 : decode cL_law 252 = .ok (.iadd, 1) := by decide +kernel
theorem dL_law_253 : decode cL_law 253 = .ok (.iaload, 1) := by decide +kernel
theorem dL_law_254 : decode cL_law 254 = .ok (.invokevirtual 32, 3) := by decide +kernel
theorem dL_law_257 : decode cL_law 257 = .ok (.aload_n 2, 1) := by decide +kernel
theorem dL_law_258 : decode cL_law 258 = .ok (.aload_n 0, 1) := by decide +kernel
theorem dL_law_259 : decode cL_law 259 = .ok (.iload_n 3, 1) := by decide +kernel
theorem dL_law_260 : decode cL_law 260 = .ok (.iconst 1, 1) := by decide +kernel
theorem dL_law_261 : decode cL_law 261 = .ok (.iadd, 1) := by decide +kernel
theorem dL_law_262 : decode cL_law 262 = .ok (.iaload, 1) := by decide +kernel
theorem dL_law_263 : decode cL_law 263 = .ok (.invokevirtual 35, 3) := by decide +kernel
theorem dL_law_266 : decode cL_law 266 = .ok (.if_icmp .eq 341, 3) := by decide +kernel
theorem dL_law_269 : decode cL_law 269 = .ok (.iconst 0, 1) := by decide +kernel
theorem dL_law_270 : decode cL_law 270 = .ok (.ireturn, 1) := by decide +kernel
theorem dL_law_271 : decode cL_law 271 = .ok (.aload_n 1, 1) := by decide +kernel
theorem dL_law_272 : decode cL_law 272 = .ok (.aload_n 0, 1) := by decide +kernel
theorem dL_law_273 : decode cL_law 273 = .ok (.iload_n 3, 1) := by decide +kernel
theorem dL_law_274 : decode cL_law 274 = .ok (.iconst 1, 1) := by decide +kernel
theorem dL_law_275 : decode cL_law 275 = .ok (.iadd, 1) := by decide +kernel
theorem dL_law_276 : decode cL_law 276 = .ok (.iaload, 1) := by decide +kernel
theorem dL_law_277 : decode cL_law 277 = .ok (.aload_n 0, 1) := by decide +kernel
theorem dL_law_278 : decode cL_law 278 = .ok (.iload_n 3, 1) := by decide +kernel
theorem dL_law_279 : decode cL_law 279 = .ok (.iconst 2, 1) := by decide +kernel
theorem dL_law_280 : decode cL_law 280 = .ok (.iadd, 1) := by decide +kernel
theorem dL_law_281 : decode cL_law 281 = .ok (.iaload, 1) := by decide +kernel
theorem dL_law_282 : decode cL_law 282 = .ok (.invokevirtual 36, 3) := by decide +kernel
theorem dL_law_285 : decode cL_law 285 = .ok (.aload_n 2, 1) := by decide +kernel
theorem dL_law_286 : decode cL_law 286 = .ok (.aload_n 0, 1) := by decide +kernel
theorem dL_law_287 : decode cL_law 287 = .ok (.iload_n 3, 1) := by decide +kernel
theorem dL_law_288 : decode cL_law 288 = .ok (.iconst 1, 1) := by decide +kernel
theorem dL_law_289 : decode cL_law 289 = .ok (.iadd, 1) := by decide +kernel
theorem dL_law_290 : decode cL_law 290 = .ok (.iaload, 1) := by decide +kernel
theorem dL_law_291 : decode cL_law 291 = .ok (.aload_n 0, 1) := by decide +kernel
theorem dL_law_292 : decode cL_law 292 = .ok (.iload_n 3, 1) := by decide +kernel
theorem dL_law_293 : decode cL_law 293 = .ok (.iconst 2, 1) := by decide +kernel
theorem dL_law_294 : decode cL_law 294 = .ok (.iadd, 1) := by decide +kernel
theorem dL_law_295 : decode cL_law 295 = .ok (.iaload, 1) := by decide +kernel
theorem dL_law_296 : decode cL_law 296 = .ok (.invokevirtual 39, 3) := by decide +kernel
theorem dL_law_299 : decode cL_law 299 = .ok (.if_icmp .eq 308, 3) := by decide +kernel
theorem dL_law_302 : decode cL_law 302 = .ok (.iconst 0, 1) := by decide +kernel
theorem dL_law_303 : decode cL_law 303 = .ok (.ireturn, 1) := by decide +kernel
theorem dL_law_304 : decode cL_law 304 = .ok (.aload_n 1, 1) := by decide +kernel
theorem dL_law_305 : decode cL_law 305 = .ok (.aload_n 0, 1) := by decide +kernel
theorem dL_law_306 : decode cL_law 306 = .ok (.iload_n 3, 1) := by decide +kernel
theorem dL_law_307 : decode cL_law 307 = .ok (.iconst 1, 1) := by decide +kernel
theorem dL_law_308 : decode cL_law 308 = .ok (.iadd, 1) := by decide +kernel
theorem dL_law_309 : decode cL_law 309 = .ok (.iaload, 1) := by decide +kernel
theorem dL_law_310 : decode cL_law 310 = .ok (.invokevirtual 40, 3) := by decide +kernel
theorem dL_law_313 : decode cL_law 313 = .ok (.aload_n 2, 1) := by decide +kernel
theorem dL_law_314 : decode cL_law 314 = .ok (.aload_n 0, 1) := by decide +kernel
theorem dL_law_315 : decode cL_law 315 = .ok (.iload_n 3, 1) := by decide +kernel
theorem dL_law_316 : decode cL_law 316 = .ok (.iconst 1, 1) := by decide +kernel
theorem dL_law_317 : decode cL_law 317 = .ok (.iadd, 1) := by decide +kernel
theorem dL_law_318 : decode cL_law 318 = .ok (.iaload, 1) := by decide +kernel
theorem dL_law_319 : decode cL_law 319 = .ok (.invokevirtual 43, 3) := by decide +kernel
theorem dL_law_322 : decode cL_law 322 = .ok (.if_icmp .eq 285, 3) := by decide +kernel
theorem dL_law_325 : decode cL_law 325 = .ok (.iconst 0, 1) := by decide +kernel
theorem dL_law_326 : decode cL_law 326 = .ok (.ireturn, 1) := by decide +kernel
theorem dL_law_327 : decode cL_law 327 = .ok (.aload_n 1, 1) := by decide +kernel
theorem dL_law_328 : decode cL_law 328 = .ok (.invokevirtual 44, 3) := by decide +kernel
theorem dL_law_331 : decode cL_law 331 = .ok (.aload_n 2, 1) := by decide +kernel
theorem dL_law_332 : decode cL_law 332 = .ok (.invokevirtual 48, 3) := by decide +kernel
theorem dL_law_335 : decode cL_law 335 = .ok (.if_icmp .eq 272, 3) := by decide +kernel
theorem dL_law_338 : decode cL_law 338 = .ok (.iconst 0, 1) := by decide +kernel
theorem dL_law_339 : decode cL_law 339 = .ok (.ireturn, 1) := by decide +kernel
theorem dL_law_340 : decode cL_law 340 = .ok (.aload_n 1, 1) := by decide +kernel
theorem dL_law_341 : decode cL_law 341 = .ok (.aload_n 0, 1) := by decide +kernel
theorem dL_law_342 : decode cL_law 342 = .ok (.iload_n 3, 1) := by decide +kernel
theorem dL_law_343 : decode cL_law 343 = .ok (.iconst 1, 1) := by decide +kernel
theorem dL_law_344 : decode cL_law 344 = .ok (.iadd, 1) := by decide +kernel
theorem dL_law_345 : decode cL_law 345 = .ok (.iaload, 1) := by decide +kernel
theorem dL_law_346 : decode cL_law 346 = .ok (.invokevirtual 49, 3) := by decide +kernel
theorem dL_law_349 : decode cL_law 349 = .ok (.aload_n 2, 1) := by decide +kernel
theorem dL_law_350 : decode cL_law 350 = .ok (.aload_n 0, 1) := by decide +kernel
theorem dL_law_351 : decode cL_law 351 = .ok (.iload_n 3, 1) := by decide +kernel
theorem dL_law_352 : decode cL_law 352 = .ok (.iconst 1, 1) := by decide +kernel
theorem dL_law_353 : decode cL_law 353 = .ok (.iadd, 1) := by decide +kernel
theorem dL_law_354 : decode cL_law 354 = .ok (.iaload, 1) := by decide +kernel
theorem dL_law_355 : decode cL_law 355 = .ok (.invokevirtual 52, 3) := by decide +kernel
theorem dL_law_358 : decode cL_law 358 = .ok (.if_icmp .eq 249, 3) := by decide +kernel
theorem dL_law_361 : decode cL_law 361 = .ok (.iconst 0, 1) := by decide +kernel
theorem dL_law_362 : decode cL_law 362 = .ok (.ireturn, 1) := by decide +kernel
theorem dL_law_363 : decode cL_law 363 = .ok (.aload_n 1, 1) := by decide +kernel
theorem dL_law_364 : decode cL_law 364 = .ok (.aload_n 0, 1) := by decide +kernel
theorem dL_law_365 : decode cL_law 365 = .ok (.iload_n 3, 1) := by decide +kernel
theorem dL_law_366 : decode cL_law 366 = .ok (.iconst 1, 1) := by decide +kernel
theorem dL_law_367 : decode cL_law 367 = .ok (.iadd, 1) := by decide +kernel
theorem dL_law_368 : decode cL_law 368 = .ok (.iaload, 1) := by decide +kernel
theorem dL_law_369 : decode cL_law 369 = .ok (.aload_n 0, 1) := by decide +kernel
theorem dL_law_370 : decode cL_law 370 = .ok (.iload_n 3, 1) := by decide +kernel
theorem dL_law_371 : decode cL_law 371 = .ok (.iconst 2, 1) := by decide +kernel
theorem dL_law_372 : decode cL_law 372 = .ok (.iadd, 1) := by decide +kernel
theorem dL_law_373 : decode cL_law 373 = .ok (.iaload, 1) := by decide +kernel
theorem dL_law_374 : decode cL_law 374 = .ok (.invokevirtual 53, 3) := by decide +kernel
theorem dL_law_377 : decode cL_law 377 = .ok (.aload_n 2, 1) := by decide +kernel
theorem dL_law_378 : decode cL_law 378 = .ok (.aload_n 0, 1) := by decide +kernel
theorem dL_law_379 : decode cL_law 379 = .ok (.iload_n 3, 1) := by decide +kernel
theorem dL_law_380 : decode cL_law 380 = .ok (.iconst 1, 1) := by decide +kernel
theorem dL_law_381 : decode cL_law 381 = .ok (.iadd, 1) := by decide +kernel
theorem dL_law_382 : decode cL_law 382 = .ok (.iaload, 1) := by decide +kernel
theorem dL_law_383 : decode cL_law 383 = .ok (.aload_n 0, 1) := by decide +kernel
theorem dL_law_384 : decode cL_law 384 = .ok (.iload_n 3, 1) := by decide +kernel
theorem dL_law_385 : decode cL_law 385 = .ok (.iconst 2, 1) := by decide +kernel
theorem dL_law_386 : decode cL_law 386 = .ok (.iadd, 1) := by decide +kernel
theorem dL_law_387 : decode cL_law 387 = .ok (.iaload, 1) := by decide +kernel
theorem dL_law_388 : decode cL_law 388 = .ok (.invokevirtual 56, 3) := by decide +kernel
theorem dL_law_391 : decode cL_law 391 = .ok (.if_icmp .eq 216, 3) := by decide +kernel
theorem dL_law_394 : decode cL_law 394 = .ok (.iconst 0, 1) := by decide +kernel
theorem dL_law_395 : decode cL_law 395 = .ok (.ireturn, 1) := by decide +kernel
theorem dL_law_396 : decode cL_law 396 = .ok (.aload_n 1, 1) := by decide +kernel
theorem dL_law_397 : decode cL_law 397 = .ok (.aload_n 0, 1) := by decide +kernel
theorem dL_law_398 : decode cL_law 398 = .ok (.iload_n 3, 1) := by decide +kernel
theorem dL_law_399 : decode cL_law 399 = .ok (.iconst 1, 1) := by decide +kernel
theorem dL_law_400 : decode cL_law 400 = .ok (.iadd, 1) := by decide +kernel
theorem dL_law_401 : decode cL_law 401 = .ok (.iaload, 1) := by decide +kernel
theorem dL_law_402 : decode cL_law 402 = .ok (.aload_n 0, 1) := by decide +kernel
theorem dL_law_403 : decode cL_law 403 = .ok (.iload_n 3, 1) := by decide +kernel
theorem dL_law_404 : decode cL_law 404 = .ok (.iconst 2, 1) := by decide +kernel
theorem dL_law_405 : decode cL_law 405 = .ok (.iadd, 1) := by decide +kernel
theorem dL_law_406 : decode cL_law 406 = .ok (.iaload, 1) := by decide +kernel
theorem dL_law_407 : decode cL_law 407 = .ok (.invokevirtual 57, 3) := by decide +kernel
theorem dL_law_410 : decode cL_law 410 = .ok (.aload_n 2, 1) := by decide +kernel
theorem dL_law_411 : decode cL_law 411 = .ok (.aload_n 0, 1) := by decide +kernel
theorem dL_law_412 : decode cL_law 412 = .ok (.iload_n 3, 1) := by decide +kernel
theorem dL_law_413 : decode cL_law 413 = .ok (.iconst 1, 1) := by decide +kernel
theorem dL_law_414 : decode cL_law 414 = .ok (.iadd, 1) := by decide +kernel
theorem dL_law_415 : decode cL_law 415 = .ok (.iaload, 1) := by decide +kernel
theorem dL_law_416 : decode cL_law 416 = .ok (.aload_n 0, 1) := by decide +kernel
theorem dL_law_417 : decode cL_law 417 = .ok (.iload_n 3, 1) := by decide +kernel
theorem dL_law_418 : decode cL_law 418 = .ok (.iconst 2, 1) := by decide +kernel
theorem dL_law_419 : decode cL_law 419 = .ok (.iadd, 1) := by decide +kernel
theorem dL_law_420 : decode cL_law 420 = .ok (.iaload, 1) := by decide +kernel
theorem dL_law_421 : decode cL_law 421 = .ok (.invokevirtual 60, 3) := by decide +kernel
theorem dL_law_424 : decode cL_law 424 = .ok (.if_icmp .eq 183, 3) := by decide +kernel
theorem dL_law_427 : decode cL_law 427 = .ok (.iconst 0, 1) := by decide +kernel
theorem dL_law_428 : decode cL_law 428 = .ok (.ireturn, 1) := by decide +kernel
theorem dL_law_429 : decode cL_law 429 = .ok (.aload_n 1, 1) := by decide +kernel
theorem dL_law_430 : decode cL_law 430 = .ok (.aload_n 0, 1) := by decide +kernel
theorem dL_law_431 : decode cL_law 431 = .ok (.iload_n 3, 1) := by decide +kernel
theorem dL_law_432 : decode cL_law 432 = .ok (.iconst 1, 1) := by decide +kernel
theorem dL_law_433 : decode cL_law 433 = .ok (.iadd, 1) := by decide +kernel
theorem dL_law_434 : decode cL_law 434 = .ok (.iaload, 1) := by decide +kernel
theorem dL_law_435 : decode cL_law 435 = .ok (.aload_n 0, 1) := by decide +kernel
theorem dL_law_436 : decode cL_law 436 = .ok (.iload_n 3, 1) := by decide +kernel
theorem dL_law_437 : decode cL_law 437 = .ok (.iconst 2, 1) := by decide +kernel
theorem dL_law_438 : decode cL_law 438 = .ok (.iadd, 1) := by decide +kernel
theorem dL_law_439 : decode cL_law 439 = .ok (.iaload, 1) := by decide +kernel
theorem dL_law_440 : decode cL_law 440 = .ok (.invokevirtual 61, 3) := by decide +kernel
theorem dL_law_443 : decode cL_law 443 = .ok (.aload_n 2, 1) := by decide +kernel
theorem dL_law_444 : decode cL_law 444 = .ok (.aload_n 0, 1) := by decide +kernel
theorem dL_law_445 : decode cL_law 445 = .ok (.iload_n 3, 1) := by decide +kernel
theorem dL_law_446 : decode cL_law 446 = .ok (.iconst 1, 1) := by decide +kernel
theorem dL_law_447 : decode cL_law 447 = .ok (.iadd, 1) := by decide +kernel
theorem dL_law_448 : decode cL_law 448 = .ok (.iaload, 1) := by decide +kernel
theorem dL_law_449 : decode cL_law 449 = .ok (.aload_n 0, 1) := by decide +kernel
theorem dL_law_450 : decode cL_law 450 = .ok (.iload_n 3, 1) := by decide +kernel
theorem dL_law_451 : decode cL_law 451 = .ok (.iconst 2, 1) := by decide +kernel
theorem dL_law_452 : decode cL_law 452 = .ok (.iadd, 1) := by decide +kernel
theorem dL_law_453 : decode cL_law 453 = .ok (.iaload, 1) := by decide +kernel
theorem dL_law_454 : decode cL_law 454 = .ok (.invokevirtual 64, 3) := by decide +kernel
theorem dL_law_457 : decode cL_law 457 = .ok (.if_icmp .eq 150, 3) := by decide +kernel
theorem dL_law_460 : decode cL_law 460 = .ok (.iconst 0, 1) := by decide +kernel
theorem dL_law_461 : decode cL_law 461 = .ok (.ireturn, 1) := by decide +kernel
theorem dL_law_462 : decode cL_law 462 = .ok (.aload_n 1, 1) := by decide +kernel
theorem dL_law_463 : decode cL_law 463 = .ok (.aload_n 0, 1) := by decide +kernel
theorem dL_law_464 : decode cL_law 464 = .ok (.iload_n 3, 1) := by decide +kernel
theorem dL_law_465 : decode cL_law 465 = .ok (.iconst 1, 1) := by decide +kernel
theorem dL_law_466 : decode cL_law 466 = .ok (.iadd, 1) := by decide +kernel
theorem dL_law_467 : decode cL_law 467 = .ok (.iaload, 1) := by decide +kernel
theorem dL_law_468 : decode cL_law 468 = .ok (.aload_n 0, 1) := by decide +kernel
theorem dL_law_469 : decode cL_law 469 = .ok (.iload_n 3, 1) := by decide +kernel
theorem dL_law_470 : decode cL_law 470 = .ok (.iconst 2, 1) := by decide +kernel
theorem dL_law_471 : decode cL_law 471 = .ok (.iadd, 1) := by decide +kernel
theorem dL_law_472 : decode cL_law 472 = .ok (.iaload, 1) := by decide +kernel
theorem dL_law_473 : decode cL_law 473 = .ok (.aload_n 0, 1) := by decide +kernel
theorem dL_law_474 : decode cL_law 474 = .ok (.iload_n 3, 1) := by decide +kernel
theorem dL_law_475 : decode cL_law 475 = .ok (.iconst 3, 1) := by decide +kernel
theorem dL_law_476 : decode cL_law 476 = .ok (.iadd, 1) := by decide +kernel
theorem dL_law_477 : decode cL_law 477 = .ok (.iaload, 1) := by decide +kernel
theorem dL_law_478 : decode cL_law 478 = .ok (.invokevirtual 65, 3) := by decide +kernel
theorem dL_law_481 : decode cL_law 481 = .ok (.aload_n 2, 1) := by decide +kernel
theorem dL_law_482 : decode cL_law 482 = .ok (.aload_n 0, 1) := by decide +kernel
theorem dL_law_483 : decode cL_law 483 = .ok (.iload_n 3, 1) := by decide +kernel
theorem dL_law_484 : decode cL_law 484 = .ok (.iconst 1, 1) := by decide +kernel
theorem dL_law_485 : decode cL_law 485 = .ok (.iadd, 1) := by decide +kernel
theorem dL_law_486 : decode cL_law 486 = .ok (.iaload, 1) := by decide +kernel
theorem dL_law_487 : decode cL_law 487 = .ok (.aload_n 0, 1) := by decide +kernel
theorem dL_law_488 : decode cL_law 488 = .ok (.iload_n 3, 1) := by decide +kernel
theorem dL_law_489 : decode cL_law 489 = .ok (.iconst 2, 1) := by decide +kernel
theorem dL_law_490 : decode cL_law 490 = .ok (.iadd, 1) := by decide +kernel
theorem dL_law_491 : decode cL_law 491 = .ok (.iaload, 1) := by decide +kernel
theorem dL_law_492 : decode cL_law 492 = .ok (.aload_n 0, 1) := by decide +kernel
theorem dL_law_493 : decode cL_law 493 = .ok (.iload_n 3, 1) := by decide +kernel
theorem dL_law_494 : decode cL_law 494 = .ok (.iconst 3, 1) := by decide +kernel
theorem dL_law_495 : decode cL_law 495 = .ok (.iadd, 1) := by decide +kernel
theorem dL_law_496 : decode cL_law 496 = .ok (.iaload, 1) := by decide +kernel
theorem dL_law_497 : decode cL_law 497 = .ok (.invokevirtual 68, 3) := by decide +kernel
theorem dL_law_500 : decode cL_law 500 = .ok (.if_icmp .eq 107, 3) := by decide +kernel
theorem dL_law_503 : decode cL_law 503 = .ok (.iconst 0, 1) := by decide +kernel
theorem dL_law_504 : decode cL_law 504 = .ok (.ireturn, 1) := by decide +kernel
theorem dL_law_505 : decode cL_law 505 = .ok (.aload_n 1, 1) := by decide +kernel
theorem dL_law_506 : decode cL_law 506 = .ok (.aload_n 0, 1) := by decide +kernel
theorem dL_law_507 : decode cL_law 507 = .ok (.iload_n 3, 1) := by decide +kernel
theorem dL_law_508 : decode cL_law 508 = .ok (.iconst 1, 1) := by decide +kernel
theorem dL_law_509 : decode cL_law 509 = .ok (.iadd, 1) := by decide +kernel
theorem dL_law_510 : decode cL_law 510 = .ok (.iaload, 1) := by decide +kernel
theorem dL_law_511 : decode cL_law 511 = .ok (.aload_n 0, 1) := by decide +kernel
theorem dL_law_512 : decode cL_law 512 = .ok (.iload_n 3, 1) := by decide +kernel
theorem dL_law_513 : decode cL_law 513 = .ok (.iconst 2, 1) := by decide +kernel
theorem dL_law_514 : decode cL_law 514 = .ok (.iadd, 1) := by decide +kernel
theorem dL_law_515 : decode cL_law 515 = .ok (.iaload, 1) := by decide +kernel
theorem dL_law_516 : decode cL_law 516 = .ok (.invokevirtual 69, 3) := by decide +kernel
theorem dL_law_519 : decode cL_law 519 = .ok (.aload_n 2, 1) := by decide +kernel
theorem dL_law_520 : decode cL_law 520 = .ok (.aload_n 0, 1) := by decide +kernel
theorem dL_law_521 : decode cL_law 521 = .ok (.iload_n 3, 1) := by decide +kernel
theorem dL_law_522 : decode cL_law 522 = .ok (.iconst 1, 1) := by decide +kernel
theorem dL_law_523 : decode cL_law 523 = .ok (.iadd, 1) := by decide +kernel
theorem dL_law_524 : decode cL_law 524 = .ok (.iaload, 1) := by decide +kernel
theorem dL_law_525 : decode cL_law 525 = .ok (.aload_n 0, 1) := by decide +kernel
theorem dL_law_526 : decode cL_law 526 = .ok (.iload_n 3, 1) := by decide +kernel
theorem dL_law_527 : decode cL_law 527 = .ok (.iconst 2, 1) := by decide +kernel
theorem dL_law_528 : decode cL_law 528 = .ok (.iadd, 1) := by decide +kernel
theorem dL_law_529 : decode cL_law 529 = .ok (.iaload, 1) := by decide +kernel
theorem dL_law_530 : decode cL_law 530 = .ok (.invokevirtual 72, 3) := by decide +kernel
theorem dL_law_533 : decode cL_law 533 = .ok (.if_icmp .eq 74, 3) := by decide +kernel
theorem dL_law_536 : decode cL_law 536 = .ok (.iconst 0, 1) := by decide +kernel
theorem dL_law_537 : decode cL_law 537 = .ok (.ireturn, 1) := by decide +kernel
theorem dL_law_538 : decode cL_law 538 = .ok (.aload_n 1, 1) := by decide +kernel
theorem dL_law_539 : decode cL_law 539 = .ok (.aload_n 0, 1) := by decide +kernel
theorem dL_law_540 : decode cL_law 540 = .ok (.iload_n 3, 1) := by decide +kernel
theorem dL_law_541 : decode cL_law 541 = .ok (.iconst 1, 1) := by decide +kernel
theorem dL_law_542 : decode cL_law 542 = .ok (.iadd, 1) := by decide +kernel
theorem dL_law_543 : decode cL_law 543 = .ok (.iaload, 1) := by decide +kernel
theorem dL_law_544 : decode cL_law 544 = .ok (.invokevirtual 73, 3) := by decide +kernel
theorem dL_law_547 : decode cL_law 547 = .ok (.aload_n 2, 1) := by decide +kernel
theorem dL_law_548 : decode cL_law 548 = .ok (.aload_n 0, 1) := by decide +kernel
theorem dL_law_549 : decode cL_law 549 = .ok (.iload_n 3, 1) := by decide +kernel
theorem dL_law_550 : decode cL_law 550 = .ok (.iconst 1, 1) := by decide +kernel
theorem dL_law_551 : decode cL_law 551 = .ok (.iadd, 1) := by decide +kernel
theorem dL_law_552 : decode cL_law 552 = .ok (.iaload, 1) := by decide +kernel
theorem dL_law_553 : decode cL_law 553 = .ok (.invokevirtual 76, 3) := by decide +kernel
theorem dL_law_556 : decode cL_law 556 = .ok (.if_icmp .eq 51, 3) := by decide +kernel
theorem dL_law_559 : decode cL_law 559 = .ok (.iconst 0, 1) := by decide +kernel
theorem dL_law_560 : decode cL_law 560 = .ok (.ireturn, 1) := by decide +kernel
theorem dL_law_561 : decode cL_law 561 = .ok (.aload_n 1, 1) := by decide +kernel
theorem dL_law_562 : decode cL_law 562 = .ok (.aload_n 0, 1) := by decide +kernel
theorem dL_law_563 : decode cL_law 563 = .ok (.iload_n 3, 1) := by decide +kernel
theorem dL_law_564 : decode cL_law 564 = .ok (.iconst 1, 1) := by decide +kernel
theorem dL_law_565 : decode cL_law 565 = .ok (.iadd, 1) := by decide +kernel
theorem dL_law_566 : decode cL_law 566 = .ok (.iaload, 1) := by decide +kernel
theorem dL_law_567 : decode cL_law 567 = .ok (.invokevirtual 77, 3) := by decide +kernel
theorem dL_law_570 : decode cL_law 570 = .ok (.aload_n 2, 1) := by decide +kernel
theorem dL_law_571 : decode cL_law 571 = .ok (.aload_n 0, 1) := by decide +kernel
theorem dL_law_572 : decode cL_law 572 = .ok (.iload_n 3, 1) := by decide +kernel
theorem dL_law_573 : decode cL_law 573 = .ok (.iconst 1, 1) := by decide +kernel
theorem dL_law_574 : decode cL_law 574 = .ok (.iadd, 1) := by decide +kernel
theorem dL_law_575 : decode cL_law 575 = .ok (.iaload, 1) := by decide +kernel
theorem dL_law_576 : decode cL_law 576 = .ok (.invokevirtual 80, 3) := by decide +kernel
theorem dL_law_579 : decode cL_law 579 = .ok (.if_icmp .eq 28, 3) := by decide +kernel
theorem dL_law_582 : decode cL_law 582 = .ok (.iconst 0, 1) := by decide +kernel
theorem dL_law_583 : decode cL_law 583 = .ok (.ireturn, 1) := by decide +kernel
theorem dL_law_584 : decode cL_law 584 = .ok (.aload_n 1, 1) := by decide +kernel
theorem dL_law_585 : decode cL_law 585 = .ok (.aload_n 0, 1) := by decide +kernel
theorem dL_law_586 : decode cL_law 586 = .ok (.iload_n 3, 1) := by decide +kernel
theorem dL_law_587 : decode cL_law 587 = .ok (.iconst 1, 1) := by decide +kernel
theorem dL_law_588 : decode cL_law 588 = .ok (.iadd, 1) := by decide +kernel
theorem dL_law_589 : decode cL_law 589 = .ok (.iaload, 1) := by decide +kernel
theorem dL_law_590 : decode cL_law 590 = .ok (.invokevirtual 81, 3) := by decide +kernel
theorem dL_law_593 : decode cL_law 593 = .ok (.aload_n 2, 1) := by decide +kernel
theorem dL_law_594 : decode cL_law 594 = .ok (.aload_n 0, 1) := by decide +kernel
theorem dL_law_595 : decode cL_law 595 = .ok (.iload_n 3, 1) := by decide +kernel
theorem dL_law_596 : decode cL_law 596 = .ok (.iconst 1, 1) := by decide +kernel
theorem dL_law_597 : decode cL_law 597 = .ok (.iadd, 1) := by decide +kernel
theorem dL_law_598 : decode cL_law 598 = .ok (.iaload, 1) := by decide +kernel
theorem dL_law_599 : decode cL_law 599 = .ok (.invokevirtual 84, 3) := by decide +kernel
theorem dL_law_602 : decode cL_law 602 = .ok (.if_icmp .eq 5, 3) := by decide +kernel
theorem dL_law_605 : decode cL_law 605 = .ok (.iconst 0, 1) := by decide +kernel
theorem dL_law_606 : decode cL_law 606 = .ok (.ireturn, 1) := by decide +kernel
theorem dL_law_607 : decode cL_law 607 = .ok (.iinc 3 4, 3) := by decide +kernel
theorem dL_law_610 : decode cL_law 610 = .ok (.goto (-592), 3) := by decide +kernel
theorem dL_law_613 : decode cL_law 613 = .ok (.iconst 1, 1) := by decide +kernel
theorem dL_law_614 : decode cL_law 614 = .ok (.ireturn, 1) := by decide +kernel
end
section
/-! ===== the flat memory: a world of cells whose whole contents are one function M of numbers; 'lay' says which number stands where ===== -/
/-- a cell: a row of numbers (how long, which number at each place), an object (its class, its fields: a number or a cell), a row of cells -/
abbrev gl_Ce : Type := (Nat × (Nat → Nat)) ⊕ ((Nat × List (Nat ⊕ Nat)) ⊕ (Nat × (Nat → Nat)))
/-- launch, classes and slots, class of int[], class of House[], addresses -/
abbrev gl_F : Type := Launch × va_G × ClassId × ClassId × (Nat → Nat)
def gl_r (F : gl_F) : Nat → Nat := F.2.2.2.2
def gl_v (F : gl_F) (M : Nat → Int32) : Nat ⊕ Nat → Value
  | .inl i => .int (M i)
  | .inr c => .ref (gl_r F c)
def gl_e (F : gl_F) (M : Nat → Int32) : gl_Ce → va_E
  | .inl (n, f) => .inl (F.2.2.1, n, .inl (fun i => if i < n then M (f i) else 0))
  | .inr (.inl (ci, fs)) => .inr (ci, fs.map (gl_v F M))
  | .inr (.inr (n, g)) => .inl (F.2.2.2.1, n, .inr (.inr (.inr (.inr (fun i => some (gl_r F (g i)))))))
def gl_w (F : gl_F) (lay : List gl_Ce) (M : Nat → Int32) : va_W := lay.mapIdx (fun j c => (gl_r F j, gl_e F M c))
def gl_A (F : gl_F) (lay : List gl_Ce) : Nat → Prop := fun q => ∃ j, j < lay.length ∧ q = gl_r F j
def gl_inj (F : gl_F) (lay : List gl_Ce) : Prop := ∀ i j, i < lay.length → j < lay.length → gl_r F i = gl_r F j → i = j
def gl_tys (F : gl_F) : List (ClassId × FieldType) := [(F.2.2.1, .int), (F.2.2.2.1, .object "GoalLifts$House")]
/-- the number that stands at place k of a cell -/
def gl_at : gl_Ce → Nat → Option Nat
  | .inl (n, f), k => if k < n then some (f k) else none
  | .inr (.inl (_, fs)), k => match fs[k]? with
    | some (.inl i) => some i
    | _ => none
  | .inr (.inr _), _ => none
def gl_sz : gl_Ce → Nat
  | .inl (n, _) => n
  | .inr (.inl (_, fs)) => fs.length
  | .inr (.inr (n, _)) => n
/-- no number stands twice; the rows are of a size that an index reaches -/
def gl_ok (lay : List gl_Ce) : Prop := (∃ ow : Nat → Nat × Nat, ∀ (j : Nat) (c : gl_Ce) (k i : Nat), lay[j]? = some c → gl_at c k = some i → ow i = (j, k)) ∧ ∀ (j : Nat) (c : gl_Ce), lay[j]? = some c → gl_sz c < 2 ^ 31
def gl_chk (ow : Nat → Nat × Nat) (lay : List gl_Ce) : Bool :=
  lay.zipIdx.all (fun q => decide (gl_sz q.1 < 2147483648) && (List.range (gl_sz q.1)).all fun k => match gl_at q.1 k with
    | some i => decide (ow i = (q.2, k))
    | none => true)
theorem gl_at_lt {c : gl_Ce} {k i : Nat} (h : gl_at c k = some i) : k < gl_sz c := by
  obtain ⟨n, f⟩ | ⟨ci, fs⟩ | ⟨n, g⟩ := c
  · simp only [gl_at] at h
    by_cases hk : k < n
    · exact hk
    · rw [if_neg hk] at h; cases h
  · simp only [gl_at] at h
    cases hf : fs[k]? with
    | none => rw [hf] at h; cases h
    | some x => exact (List.getElem?_eq_some_iff.mp hf).1
  · simp [gl_at] at h
theorem gl_ok_of {ow : Nat → Nat × Nat} {lay : List gl_Ce} (h : gl_chk ow lay = true) : gl_ok lay := by
  have hm : ∀ (j : Nat) (c : gl_Ce), lay[j]? = some c → (c, j) ∈ lay.zipIdx := by
    intro j c hj
    exact List.mk_mem_zipIdx_iff_getElem?.mpr hj
  refine ⟨⟨ow, fun j c k i hj hk => ?_⟩, fun j c hj => ?_⟩
  · have h1 := List.all_eq_true.mp h _ (hm j c hj)
    simp only [Bool.and_eq_true] at h1
    have h2 := List.all_eq_true.mp h1.2 k (List.mem_range.mpr (gl_at_lt hk))
    rw [hk] at h2
    simpa using h2
  · have h1 := List.all_eq_true.mp h _ (hm j c hj)
    simp only [Bool.and_eq_true, decide_eq_true_eq] at h1
    exact h1.1
theorem gl_w_at {F : gl_F} {lay : List gl_Ce} {M : Nat → Int32} {j : Nat} {c : gl_Ce} (h : lay[j]? = some c) : (gl_w F lay M)[j]? = some (gl_r F j, gl_e F M c) := by
  unfold gl_w
  rw [List.getElem?_mapIdx, h]
  rfl
theorem gl_w_len {F : gl_F} {lay : List gl_Ce} {M : Nat → Int32} : (gl_w F lay M).length = lay.length := by
  unfold gl_w
  exact List.length_mapIdx
theorem gl_w_inv {F : gl_F} {lay : List gl_Ce} {M : Nat → Int32} {j : Nat} {q : Nat × va_E} (h : (gl_w F lay M)[j]? = some q) : ∃ c, lay[j]? = some c ∧ q = (gl_r F j, gl_e F M c) := by
  unfold gl_w at h
  rw [List.getElem?_mapIdx] at h
  cases hc : lay[j]? with
  | none => rw [hc] at h; cases h
  | some c => rw [hc] at h; exact ⟨c, rfl, (Option.some.inj h).symm⟩
/-- a number that isn't in a cell can change -/
theorem gl_e_upd {F : gl_F} {M M' : Nat → Int32} {c : gl_Ce} (h : ∀ k i, gl_at c k = some i → M' i = M i) : gl_e F M' c = gl_e F M c := by
  obtain ⟨n, f⟩ | ⟨ci, fs⟩ | ⟨n, g⟩ := c
  · have e : (fun i => if i < n then M' (f i) else 0) = (fun i => if i < n then M (f i) else 0) := by
      funext i
      by_cases hi : i < n
      · rw [if_pos hi, if_pos hi]
        exact h i (f i) (by simp only [gl_at]; rw [if_pos hi])
      · rw [if_neg hi, if_neg hi]
    simp only [gl_e, e]
  · have e : fs.map (gl_v F M') = fs.map (gl_v F M) := by
      apply List.ext_getElem?
      intro k
      rw [List.getElem?_map, List.getElem?_map]
      cases hf : fs[k]? with
      | none => rfl
      | some x =>
        cases x with
        | inl i =>
          have := h k i (by simp only [gl_at]; rw [hf])
          simp only [Option.map_some, gl_v, this]
        | inr c => rfl
    simp only [gl_e, e]
  · rfl
theorem gl_upd_ne {M : Nat → Int32} {i j : Nat} {x : Int32} (h : j ≠ i) : upd M i x j = M j := by
  unfold upd
  rw [if_neg h]
theorem gl_upd_eq {M : Nat → Int32} {i : Nat} {x : Int32} : upd M i x i = x := by
  unfold upd
  rw [if_pos rfl]
theorem gl_set_arr {F : gl_F} {lay : List gl_Ce} {M : Nat → Int32} (hok : gl_ok lay) {j n k : Nat} {f : Nat → Nat} (hj : lay[j]? = some (.inl (n, f))) (hk : k < n) (x : Int32) :
    (gl_w F lay M).set j (gl_r F j, .inl (F.2.2.1, n, .inl (upd (fun i => if i < n then M (f i) else 0) k x))) = gl_w F lay (upd M (f k) x) := by
  obtain ⟨⟨ow, how⟩, -⟩ := hok
  have h0 : ow (f k) = (j, k) := how j _ k (f k) hj (by simp only [gl_at]; rw [if_pos hk])
  apply List.ext_getElem?
  intro j'
  by_cases hjj : j' = j
  · subst hjj
    rw [List.getElem?_set_self (by rw [gl_w_len]; exact (List.getElem?_eq_some_iff.mp hj).1), gl_w_at hj]
    have e : upd (fun i => if i < n then M (f i) else 0) k x = (fun i => if i < n then upd M (f k) x (f i) else 0) := by
      funext i
      unfold upd
      by_cases hi : i = k
      · subst hi
        rw [if_pos rfl, if_pos hk, if_pos rfl]
      · rw [if_neg hi]
        by_cases hin : i < n
        · show (if i < n then M (f i) else 0) = _
          rw [if_pos hin, if_pos hin, if_neg]
          intro hf
          have h1 : ow (f i) = (j', i) := how j' _ i (f i) hj (by simp only [gl_at]; rw [if_pos hin])
          rw [hf, h0] at h1
          exact hi (Prod.mk.inj h1).2.symm
        · show (if i < n then M (f i) else 0) = _
          rw [if_neg hin, if_neg hin]
    simp only [gl_e, e]
  · rw [List.getElem?_set_ne (Ne.symm hjj)]
    cases hc : lay[j']? with
    | none =>
      rw [List.getElem?_eq_none (by rw [gl_w_len]; exact List.getElem?_eq_none_iff.mp hc), List.getElem?_eq_none (by rw [gl_w_len]; exact List.getElem?_eq_none_iff.mp hc)]
    | some c =>
      rw [gl_w_at hc, gl_w_at hc]
      rw [gl_e_upd (c := c) (M := M) (M' := upd M (f k) x)]
      intro k' i hi
      apply gl_upd_ne
      intro e
      have h1 := how j' c k' i hc hi
      rw [e, h0] at h1
      exact hjj (Prod.mk.inj h1).1.symm
theorem gl_set_fld {F : gl_F} {lay : List gl_Ce} {M : Nat → Int32} (hok : gl_ok lay) {j ci k i : Nat} {fs : List (Nat ⊕ Nat)} (hj : lay[j]? = some (.inr (.inl (ci, fs)))) (hk : fs[k]? = some (.inl i)) (x : Int32) :
    (gl_w F lay M).set j (gl_r F j, .inr (ci, (fs.map (gl_v F M)).set k (.int x))) = gl_w F lay (upd M i x) := by
  obtain ⟨⟨ow, how⟩, -⟩ := hok
  have h0 : ow i = (j, k) := how j _ k i hj (by simp only [gl_at]; rw [hk])
  apply List.ext_getElem?
  intro j'
  by_cases hjj : j' = j
  · subst hjj
    rw [List.getElem?_set_self (by rw [gl_w_len]; exact (List.getElem?_eq_some_iff.mp hj).1), gl_w_at hj]
    have e : (fs.map (gl_v F M)).set k (.int x) = fs.map (gl_v F (upd M i x)) := by
      apply List.ext_getElem?
      intro k'
      by_cases hkk : k' = k
      · subst hkk
        rw [List.getElem?_set_self (by rw [List.length_map]; exact (List.getElem?_eq_some_iff.mp hk).1), List.getElem?_map, hk]
        simp only [Option.map_some, gl_v, gl_upd_eq]
      · rw [List.getElem?_set_ne (Ne.symm hkk), List.getElem?_map, List.getElem?_map]
        cases hf : fs[k']? with
        | none => rfl
        | some y =>
          cases y with
          | inr c => rfl
          | inl i' =>
            have h1 : ow i' = (j', k') := how j' _ k' i' hj (by simp only [gl_at]; rw [hf])
            have hne : i' ≠ i := by
              intro e
              rw [e, h0] at h1
              exact hkk (Prod.mk.inj h1).2.symm
            simp only [Option.map_some, gl_v, gl_upd_ne hne]
    simp only [gl_e, e]
  · rw [List.getElem?_set_ne (Ne.symm hjj)]
    cases hc : lay[j']? with
    | none =>
      rw [List.getElem?_eq_none (by rw [gl_w_len]; exact List.getElem?_eq_none_iff.mp hc), List.getElem?_eq_none (by rw [gl_w_len]; exact List.getElem?_eq_none_iff.mp hc)]
    | some c =>
      rw [gl_w_at hc, gl_w_at hc]
      rw [gl_e_upd (c := c) (M := M) (M' := upd M i x)]
      intro k' i' hi
      apply gl_upd_ne
      intro e
      have h1 := how j' c k' i' hc hi
      rw [e, h0] at h1
      exact hjj (Prod.mk.inj h1).1.symm
theorem gl_w_D {F : gl_F} {lay : List gl_Ce} {M : Nat → Int32} (h : gl_inj F lay) : va_D (gl_A F lay) (gl_w F lay M) := by
  refine ⟨fun i j p q hi hj hpq => ?_, fun k q hk => ?_⟩
  · obtain ⟨c, h1, rfl⟩ := gl_w_inv hi
    obtain ⟨c', h2, rfl⟩ := gl_w_inv hj
    exact h i j (List.getElem?_eq_some_iff.mp h1).1 (List.getElem?_eq_some_iff.mp h2).1 hpq
  · obtain ⟨c, h1, rfl⟩ := gl_w_inv hk
    exact ⟨k, (List.getElem?_eq_some_iff.mp h1).1, rfl⟩
/-! ===== locals as a list by places ===== -/
def gl_L (nL : Nat) (ls : Array Slot) (L : List (Option Value)) : Prop := ls.size = nL ∧ lv_wf ls ∧ L.length = nL ∧ ∀ (i : Nat) (v : Value), L[i]? = some (some v) → ls[i]? = some (.val v) ∧ v.category = 1
def gl_al (L : List (Option Value)) : List (Nat × Value) := L.zipIdx.filterMap (fun q => q.1.map (fun v => (q.2, v)))
theorem gl_al_mem {L : List (Option Value)} {i : Nat} {v : Value} : (i, v) ∈ gl_al L ↔ L[i]? = some (some v) := by
  unfold gl_al
  rw [List.mem_filterMap]
  constructor
  · rintro ⟨⟨o, j⟩, h1, h2⟩
    have h3 := List.mk_mem_zipIdx_iff_getElem?.mp h1
    cases o with
    | none => cases h2
    | some w =>
      simp only [Option.map_some, Option.some.injEq, Prod.mk.injEq] at h2
      obtain ⟨rfl, rfl⟩ := h2
      exact h3
  · intro h
    exact ⟨(some v, i), List.mk_mem_zipIdx_iff_getElem?.mpr h, rfl⟩
theorem gl_L_has {nL : Nat} {ls : Array Slot} {L : List (Option Value)} (h : gl_L nL ls L) : lv_has ls nL (gl_al L) :=
  ⟨h.1, h.2.1, fun q hq => (h.2.2.2 q.1 q.2 (gl_al_mem.mp hq)).1⟩
theorem gl_L_at {nL : Nat} {ls : Array Slot} {L : List (Option Value)} (h : gl_L nL ls L) {i : Nat} {v : Value} (hi : L[i]? = some (some v)) : ls[i]? = some (.val v) := (h.2.2.2 i v hi).1
theorem gl_L_set {nL : Nat} {ls ls' : Array Slot} {L : List (Option Value)} {i : Nat} {v : Value} (h : gl_L nL ls L) (hc : v.category = 1)
    (h' : lv_has ls' nL ((i, v) :: (gl_al L).filter (fun q => !(q.1 == i) && !(q.1 + 1 == i && q.2.category == 2)))) : gl_L nL ls' (L.set i (some v)) := by
  refine ⟨h'.1, h'.2.1, by rw [List.length_set]; exact h.2.2.1, fun j w hj => ?_⟩
  by_cases hij : j = i
  · subst hij
    have hlt : j < L.length := by
      have := (List.getElem?_eq_some_iff.mp hj).1
      rwa [List.length_set] at this
    rw [List.getElem?_set_self hlt] at hj
    cases hj
    exact ⟨h'.2.2 _ List.mem_cons_self, hc⟩
  · rw [List.getElem?_set_ne (Ne.symm hij)] at hj
    have hw := (h.2.2.2 j w hj).2
    refine ⟨h'.2.2 (j, w) (List.mem_cons_of_mem _ (List.mem_filter.mpr ⟨gl_al_mem.mpr hj, ?_⟩)), hw⟩
    simp [hij, hw]
theorem gl_args_at (av : List Value) (h : ∀ v ∈ av, v.category = 1) : ∀ (b i : Nat) (v : Value), av[i]? = some v → (b + i, v) ∈ lv_args b av := by
  induction av with
  | nil => intro b i v hv; simp at hv
  | cons a as ih =>
    intro b i v hv
    have ha : ¬ a.category = 2 := by rw [h a List.mem_cons_self]; decide
    simp only [lv_args, ha, if_false]
    cases i with
    | zero =>
      simp only [List.getElem?_cons_zero, Option.some.injEq] at hv
      subst hv
      exact List.mem_cons_self
    | succ i =>
      rw [List.getElem?_cons_succ] at hv
      have := ih (fun v hv => h v (List.mem_cons_of_mem _ hv)) (b + 1) i v hv
      rw [show b + 1 + i = b + (i + 1) by omega] at this
      exact List.mem_cons_of_mem _ this
theorem gl_sl_len (av : List Value) (h : ∀ v ∈ av, v.category = 1) : (lg_sl av).length = av.length := by
  induction av with
  | nil => rfl
  | cons a as ih =>
    have ha : ¬ a.category = 2 := by rw [h a List.mem_cons_self]; decide
    have hi := ih (fun v hv => h v (List.mem_cons_of_mem _ hv))
    unfold lg_sl at hi ⊢
    simp [ha, hi]
/-! ===== the judgement: the machine at pc, locals L, stack st, memory M, comes to the method's end with answer ov and memory M' ===== -/
abbrev gl_V : Type := gl_F × Program × Env × Room × State × MethodId × Array Value × List Frame × Method × Code × Nat
def gl_Q (F : gl_F) (lay : List gl_Ce) (ov : Option Value) (M' : Nat → Int32) : Array Value → State → Outcome → State → Prop := fun _ st o t => o = .returned ov ∧ va_P F.2.1 vwCl (gl_w F lay M') t.heap ∧ va_F (gl_A F lay) st t
def gl_Pc (F : gl_F) (lay : List gl_Ce) (av : List Value) (M : Nat → Int32) : Array Value → State → Prop := va_Pc av (fun U => va_P F.2.1 vwCl (gl_w F lay M) U.heap ∧ va_K F.2.1 vwCl (gl_tys F) U ∧ gl_inj F lay)
/-- A CONTRACT: method y, called with av over memory M, answers ov and leaves M' -/
def gl_Ct (F : gl_F) (lay : List gl_Ce) (y : MethodName) (ws : List Cond) (rm : Room) (av : List Value) (M : Nat → Int32) (ov : Option Value) (M' : Nat → Int32) : Prop := Met F.1 y ws rm (gl_Pc F lay av M) (gl_Q F lay ov M') 0 0 (gl_A F lay)
def gl_C (cc : ByteArray) (ws : List Cond) (own : String) (rm : Room) (ret : Option FieldType) (lay : List gl_Ce) : gl_V → Prop
  | (F, p, e, R, s, m, args, below, meth, c, nL) => p.tables.exec = Jvm.exec ∧ c.code = cc ∧ c.maxLocals = nL ∧ s.vm.findClass own = some m.cls ∧ (∀ w ∈ ws, w.before args s = true) ∧ va_K F.2.1 vwCl (gl_tys F) s ∧ gl_inj F lay ∧ gl_ok lay ∧ meth.locks = false ∧ meth.sig.returnType = ret ∧ R = rm
def gl_G (lay : List gl_Ce) (ov : Option Value) (M' : Nat → Int32) : gl_V → Nat → List (Option Value) → List Value → (Nat → Int32) → Prop
  | (F, p, e, R, s, m, args, below, meth, c, nL), pc, L, st, M => ∀ (H : Heap) (locs : List Loc) (ls : Array Slot), va_P F.2.1 vwCl (gl_w F lay M) H → va_S (gl_A F lay) s.heap H locs → gl_L nL ls L → W p F.1 e R s m args below meth c H locs 0 0 (MQ below (gl_Q F lay ov M') args s 0 0 (gl_A F lay)) (F0 m pc ls st)
/-- a method's contract out of the walk of its body, for a method that no native row overrides -/
theorem gl_ofW {l : Launch} {y : MethodName} {ws ws' : List Cond} {rm : Room} {Pc : Array Value → State → Prop} {Qc : Array Value → State → Outcome → State → Prop} {mc ms : Nat} {free : Addr → Prop} {cc : ByteArray} {maxL : Nat} {ret : Option FieldType}
    (hy : plainFor y = true) (hw : ws = Cond.code y cc maxL ret :: ws')
    (body : ∀ p e s m args below meth c s₁, BodyLoose p l y (headSpec ws rm) cc maxL ret e s m args below meth c s₁ → c.maxLocals = maxL → Pc args s →
      W p l e (headSpec ws rm).room s m args below meth c s.heap [] 0 0 (MQ below Qc args s mc ms free) (entryFrame m args maxL)) : Met l y ws rm Pc Qc mc ms free := by
  refine MetFree.of_bodySF (code := cc) (maxLocals := maxL) (ret := ret) hy (fun args s m h hn => ?_) (fun p e s m args below meth c s₁ B hml hP _ => ?_)
  · obtain ⟨meth, c, h1, h2, h3, h4, h5, h6, -, -⟩ := Cond.code_spec hn (atoms_spec (ws := ws) h _ (by rw [hw]; exact List.mem_cons_self))
    exact ⟨meth, c, h1, h2, h3, h4, h5, h6⟩
  · have hh : s₁.heap = s.heap := by rw [B.state]; rfl
    obtain ⟨t, a1, o, b1, b2, b3⟩ := body p e s m args below meth c s₁ B hml hP s₁ hh (Stand.of_body B)
    exact ⟨t, o, a1, b1, b2, b3.1, b3.2⟩
set_option maxHeartbeats 1000000 in
theorem gl_met {F : gl_F} {lay : List gl_Ce} {y : MethodName} {ws ws' : List Cond} {cc : ByteArray} {maxL : Nat} {ret : Option FieldType} {rm : Room} {av : List Value} {M M' : Nat → Int32} {ov : Option Value} (L0 : List (Option Value))
    (hy : plainFor y = true) (hw : ws = Cond.code y cc maxL ret :: ws') (hok : gl_ok lay) (hav : ∀ v ∈ av, v.category = 1) (hlen : av.length ≤ maxL) (hL0 : av.map some ++ List.replicate (maxL - av.length) none = L0)
    (body : ∀ V : gl_V, V.1 = F → gl_C cc ws y.cls rm ret lay V → gl_G lay ov M' V 0 L0 [] M) : gl_Ct F lay y ws rm av M ov M' := by
  refine gl_ofW (cc := cc) (maxL := maxL) (ret := ret) hy hw ?_
  intro p e s m args below meth c s₁ B hml hv
  obtain ⟨rfl, hP, hK, hI⟩ := hv
  have hts := atoms_spec (ws := ws) B.pre
  have hown : s.vm.findClass y.cls = some m.cls := findClass_of_methodNamed B.named
  have hl := lv_entry av (n := maxL) (by rw [gl_sl_len av hav]; exact hlen)
  rw [lg_entry_eq]
  generalize (lg_sl av ++ List.replicate (maxL - (lg_sl av).length) Slot.unset).toArray = ls at hl ⊢
  have hL : gl_L maxL ls L0 := by
    refine ⟨hl.1, hl.2.1, ?_, fun i v hi => ?_⟩
    · rw [← hL0]; simp; omega
    · rw [← hL0] at hi
      by_cases h : i < av.length
      · rw [List.getElem?_append_left (by simpa using h), List.getElem?_map] at hi
        cases hx : av[i]? with
        | none => rw [hx] at hi; cases hi
        | some w =>
          rw [hx] at hi
          simp only [Option.map_some, Option.some.injEq] at hi
          subst hi
          have := gl_args_at av hav 0 i w hx
          rw [Nat.zero_add] at this
          exact ⟨hl.2.2 _ this, hav _ (List.mem_of_getElem? hx)⟩
      · rw [List.getElem?_append_right (by simpa using h)] at hi
        have := List.eq_of_mem_replicate (List.mem_of_getElem? hi)
        cases this
  exact body (F, p, e, rm, s, m, av.toArray, below, meth, c, maxL) rfl ⟨B.exec, B.bytes, hml, hown, hts, hK, hI, hok, B.notSynchronized, B.returns, rfl⟩ s.heap [] ls hP va_S.rf hL
def gl_le : List (Option Value) → List (Option Value) → Prop
  | [], [] => True
  | none :: a, _ :: b => gl_le a b
  | some v :: a, some w :: b => w = v ∧ gl_le a b
  | _, _ => False
theorem gl_le_len : ∀ {a b : List (Option Value)}, gl_le a b → a.length = b.length
  | [], [], _ => rfl
  | none :: a, _ :: b, h => by
    simp only [gl_le] at h
    simp [gl_le_len h]
  | some v :: a, some w :: b, h => by
    simp only [gl_le] at h
    simp [gl_le_len h.2]
  | [], _ :: _, h => by simp [gl_le] at h
  | none :: _, [], h => by simp [gl_le] at h
  | some _ :: _, [], h => by simp [gl_le] at h
  | some _ :: _, none :: _, h => by simp [gl_le] at h
theorem gl_le_at : ∀ {a b : List (Option Value)}, gl_le a b → ∀ (i : Nat) (v : Value), a[i]? = some (some v) → b[i]? = some (some v)
  | [], [], _, i, v, hi => by simp at hi
  | none :: a, x :: b, h, i, v, hi => by
    simp only [gl_le] at h
    cases i with
    | zero => simp at hi
    | succ i =>
      rw [List.getElem?_cons_succ] at hi ⊢
      exact gl_le_at h i v hi
  | some u :: a, some w :: b, h, i, v, hi => by
    simp only [gl_le] at h
    cases i with
    | zero =>
      rw [List.getElem?_cons_zero] at hi ⊢
      rw [h.1]
      exact hi
    | succ i =>
      rw [List.getElem?_cons_succ] at hi ⊢
      exact gl_le_at h.2 i v hi
  | [], _ :: _, h, _, _, _ => by simp [gl_le] at h
  | none :: _, [], h, _, _, _ => by simp [gl_le] at h
  | some _ :: _, [], h, _, _, _ => by simp [gl_le] at h
  | some _ :: _, none :: _, h, _, _, _ => by simp [gl_le] at h
theorem gl_le_n : gl_le [] [] := trivial
theorem gl_le_c {v w : Value} {a b : List (Option Value)} (h : w = v) (t : gl_le a b) : gl_le (some v :: a) (some w :: b) := ⟨h, t⟩
theorem gl_le_o {x : Option Value} {a b : List (Option Value)} (t : gl_le a b) : gl_le (none :: a) (x :: b) := t
theorem gl_inc1 (x : Int32) : x + Int32.ofInt 1 = x + nI 1 := by rw [show Int32.ofInt 1 = nI 1 by decide]
theorem gl_inc4 (x : Int32) : x + Int32.ofInt 4 = x + nI 4 := by rw [show Int32.ofInt 4 = nI 4 by decide]
theorem gl_i1 : Int32.ofInt 1 = nI 1 := by decide
theorem gl_i4 : Int32.ofInt 4 = nI 4 := by decide
theorem gl_xge {x : Int32} : ¬ ¬ x ≤ x := fun h => h (Int32.le_refl _)
section GLR
variable {cc : ByteArray} {ws : List Cond} {own : String} {rm : Room} {ret : Option FieldType} {lay : List gl_Ce} {ov : Option Value} {M M' M1 : Nat → Int32} {V : gl_V} {pc : Nat} {L L1 : List (Option Value)} {st rest : List Value}
/-- on at a place whose state is known to go on: what is asked there must be what stands -/
theorem gl_on (h : gl_G lay ov M' V pc L1 st M1) (hL : gl_le L1 L) (hM : M = M1) : gl_G lay ov M' V pc L st M := by
  obtain ⟨F, p, e, R, s, m, args, below, meth, c, nL⟩ := V
  subst hM
  intro H locs ls hP hS hl
  exact h H locs ls hP hS ⟨hl.1, hl.2.1, (gl_le_len hL).trans hl.2.2.1, fun i v hi => hl.2.2.2 i v (gl_le_at hL i v hi)⟩
theorem gl_mem (hM : M = M1) (h : gl_G lay ov M' V pc L st M1) : gl_G lay ov M' V pc L st M := by rw [hM]; exact h
theorem gl_top {x y : Int32} (hx : x = y) (h : gl_G lay ov M' V pc L (.int y :: st) M) : gl_G lay ov M' V pc L (.int x :: st) M := by rw [hx]; exact h
theorem gl_loop {n : Nat} (Lk : Nat → List (Option Value)) (Mk : Nat → Nat → Int32) (I : Nat → Prop) (k0 : Nat) (h0 : k0 ≤ n) (hI : I k0) (hL : gl_le (Lk k0) L) (hM : M = Mk k0) (exit : I n → gl_G lay ov M' V pc (Lk n) st (Mk n))
    (step : ∀ k, k < n → I k → (I (k + 1) → gl_G lay ov M' V pc (Lk (k + 1)) st (Mk (k + 1))) → gl_G lay ov M' V pc (Lk k) st (Mk k)) : gl_G lay ov M' V pc L st M := by
  have h : ∀ j k, k + j = n → I k → gl_G lay ov M' V pc (Lk k) st (Mk k) := by
    intro j
    induction j with
    | zero =>
      intro k hk hI
      rw [Nat.add_zero] at hk
      subst hk
      exact exit hI
    | succ j ih =>
      intro k hk hI
      exact step k (by omega) hI (fun h => ih (k + 1) (by omega) h)
  exact gl_on (h (n - k0) k0 (by omega) hI) hL hM
theorem gl_iconst {n : Int} (v : Int32) (C : gl_C cc ws own rm ret lay V) (d : decode cc pc = .ok (.iconst n, 1)) (hv : Int32.ofInt n = v) (k : gl_G lay ov M' V (pc + 1) L (.int v :: st) M) : gl_G lay ov M' V pc L st M := by
  obtain ⟨F, p, e, R, s, m, args, below, meth, c, nL⟩ := V
  obtain ⟨hx, hb, hml, hown, hts, hK, hI, hok, hlk, hr, rfl⟩ := C
  intro H locs ls hP hS hl
  exact lv_iconst hx hb d hv (k H locs ls hP hS hl)
theorem gl_bipush {n : Int} (v : Int32) (C : gl_C cc ws own rm ret lay V) (d : decode cc pc = .ok (.bipush n, 2)) (hv : (Int8.ofInt n).toInt32 = v) (k : gl_G lay ov M' V (pc + 2) L (.int v :: st) M) : gl_G lay ov M' V pc L st M := by
  obtain ⟨F, p, e, R, s, m, args, below, meth, c, nL⟩ := V
  obtain ⟨hx, hb, hml, hown, hts, hK, hI, hok, hlk, hr, rfl⟩ := C
  intro H locs ls hP hS hl
  exact lv_bipush hx hb d hv (k H locs ls hP hS hl)
theorem gl_sipush {n : Int} (v : Int32) (C : gl_C cc ws own rm ret lay V) (d : decode cc pc = .ok (.sipush n, 3)) (hv : (Int16.ofInt n).toInt32 = v) (k : gl_G lay ov M' V (pc + 3) L (.int v :: st) M) : gl_G lay ov M' V pc L st M := by
  obtain ⟨F, p, e, R, s, m, args, below, meth, c, nL⟩ := V
  obtain ⟨hx, hb, hml, hown, hts, hK, hI, hok, hlk, hr, rfl⟩ := C
  intro H locs ls hP hS hl
  exact lv_sipush hx hb d hv (k H locs ls hP hS hl)
theorem gl_ldc {index : Nat} (v : Int32) (C : gl_C cc ws own rm ret lay V) (d : decode cc pc = .ok (.ldc index, 2)) (hv : Cond.constant own index v ∈ ws) (k : gl_G lay ov M' V (pc + 2) L (.int v :: st) M) : gl_G lay ov M' V pc L st M := by
  obtain ⟨F, p, e, R, s, m, args, below, meth, c, nL⟩ := V
  obtain ⟨hx, hb, hml, hown, hts, hK, hI, hok, hlk, hr, rfl⟩ := C
  intro H locs ls hP hS hl
  exact lv_ldc hx hb hown (hts _ hv) d (k H locs ls hP hS hl)
theorem gl_ldcw {index : Nat} (v : Int32) (C : gl_C cc ws own rm ret lay V) (d : decode cc pc = .ok (.ldc_w index, 3)) (hv : Cond.constant own index v ∈ ws) (k : gl_G lay ov M' V (pc + 3) L (.int v :: st) M) : gl_G lay ov M' V pc L st M := by
  obtain ⟨F, p, e, R, s, m, args, below, meth, c, nL⟩ := V
  obtain ⟨hx, hb, hml, hown, hts, hK, hI, hok, hlk, hr, rfl⟩ := C
  intro H locs ls hP hS hl
  exact lv_ldcw hx hb hown (hts _ hv) d (k H locs ls hP hS hl)
theorem gl_iadd {x y : Int32} (C : gl_C cc ws own rm ret lay V) (d : decode cc pc = .ok (.iadd, 1)) (k : gl_G lay ov M' V (pc + 1) L (.int (x + y) :: st) M) : gl_G lay ov M' V pc L (.int y :: .int x :: st) M := by
  obtain ⟨F, p, e, R, s, m, args, below, meth, c, nL⟩ := V
  obtain ⟨hx, hb, hml, hown, hts, hK, hI, hok, hlk, hr, rfl⟩ := C
  intro H locs ls hP hS hl
  exact lv_iadd hx hb d (k H locs ls hP hS hl)
theorem gl_isub {x y : Int32} (C : gl_C cc ws own rm ret lay V) (d : decode cc pc = .ok (.isub, 1)) (k : gl_G lay ov M' V (pc + 1) L (.int (x - y) :: st) M) : gl_G lay ov M' V pc L (.int y :: .int x :: st) M := by
  obtain ⟨F, p, e, R, s, m, args, below, meth, c, nL⟩ := V
  obtain ⟨hx, hb, hml, hown, hts, hK, hI, hok, hlk, hr, rfl⟩ := C
  intro H locs ls hP hS hl
  exact lv_isub hx hb d (k H locs ls hP hS hl)
theorem gl_imul {x y : Int32} (C : gl_C cc ws own rm ret lay V) (d : decode cc pc = .ok (.imul, 1)) (k : gl_G lay ov M' V (pc + 1) L (.int (x * y) :: st) M) : gl_G lay ov M' V pc L (.int y :: .int x :: st) M := by
  obtain ⟨F, p, e, R, s, m, args, below, meth, c, nL⟩ := V
  obtain ⟨hx, hb, hml, hown, hts, hK, hI, hok, hlk, hr, rfl⟩ := C
  intro H locs ls hP hS hl
  exact lv_imul hx hb d (k H locs ls hP hS hl)
theorem gl_iand {x y : Int32} (C : gl_C cc ws own rm ret lay V) (d : decode cc pc = .ok (.iand, 1)) (k : gl_G lay ov M' V (pc + 1) L (.int (x &&& y) :: st) M) : gl_G lay ov M' V pc L (.int y :: .int x :: st) M := by
  obtain ⟨F, p, e, R, s, m, args, below, meth, c, nL⟩ := V
  obtain ⟨hx, hb, hml, hown, hts, hK, hI, hok, hlk, hr, rfl⟩ := C
  intro H locs ls hP hS hl
  exact lv_iand hx hb d (k H locs ls hP hS hl)
theorem gl_ior {x y : Int32} (C : gl_C cc ws own rm ret lay V) (d : decode cc pc = .ok (.ior, 1)) (k : gl_G lay ov M' V (pc + 1) L (.int (x ||| y) :: st) M) : gl_G lay ov M' V pc L (.int y :: .int x :: st) M := by
  obtain ⟨F, p, e, R, s, m, args, below, meth, c, nL⟩ := V
  obtain ⟨hx, hb, hml, hown, hts, hK, hI, hok, hlk, hr, rfl⟩ := C
  intro H locs ls hP hS hl
  exact lv_ior hx hb d (k H locs ls hP hS hl)
theorem gl_ixor {x y : Int32} (C : gl_C cc ws own rm ret lay V) (d : decode cc pc = .ok (.ixor, 1)) (k : gl_G lay ov M' V (pc + 1) L (.int (x ^^^ y) :: st) M) : gl_G lay ov M' V pc L (.int y :: .int x :: st) M := by
  obtain ⟨F, p, e, R, s, m, args, below, meth, c, nL⟩ := V
  obtain ⟨hx, hb, hml, hown, hts, hK, hI, hok, hlk, hr, rfl⟩ := C
  intro H locs ls hP hS hl
  exact lv_ixor hx hb d (k H locs ls hP hS hl)
theorem gl_ishl {x y : Int32} (C : gl_C cc ws own rm ret lay V) (d : decode cc pc = .ok (.ishl, 1)) (k : gl_G lay ov M' V (pc + 1) L (.int (x <<< (y &&& 31)) :: st) M) : gl_G lay ov M' V pc L (.int y :: .int x :: st) M := by
  obtain ⟨F, p, e, R, s, m, args, below, meth, c, nL⟩ := V
  obtain ⟨hx, hb, hml, hown, hts, hK, hI, hok, hlk, hr, rfl⟩ := C
  intro H locs ls hP hS hl
  exact lv_ishl hx hb d (k H locs ls hP hS hl)
theorem gl_ishr {x y : Int32} (C : gl_C cc ws own rm ret lay V) (d : decode cc pc = .ok (.ishr, 1)) (k : gl_G lay ov M' V (pc + 1) L (.int (x >>> (y &&& 31)) :: st) M) : gl_G lay ov M' V pc L (.int y :: .int x :: st) M := by
  obtain ⟨F, p, e, R, s, m, args, below, meth, c, nL⟩ := V
  obtain ⟨hx, hb, hml, hown, hts, hK, hI, hok, hlk, hr, rfl⟩ := C
  intro H locs ls hP hS hl
  exact lv_ishr hx hb d (k H locs ls hP hS hl)
theorem gl_idiv {x y : Int32} (C : gl_C cc ws own rm ret lay V) (d : decode cc pc = .ok (.idiv, 1)) (hne : ¬ y = 0) (k : gl_G lay ov M' V (pc + 1) L (.int (x / y) :: st) M) : gl_G lay ov M' V pc L (.int y :: .int x :: st) M := by
  obtain ⟨F, p, e, R, s, m, args, below, meth, c, nL⟩ := V
  obtain ⟨hx, hb, hml, hown, hts, hK, hI, hok, hlk, hr, rfl⟩ := C
  intro H locs ls hP hS hl
  exact lv_idiv hx hb d hne (k H locs ls hP hS hl)
theorem gl_irem {x y : Int32} (C : gl_C cc ws own rm ret lay V) (d : decode cc pc = .ok (.irem, 1)) (hne : ¬ y = 0) (k : gl_G lay ov M' V (pc + 1) L (.int (x - x / y * y) :: st) M) : gl_G lay ov M' V pc L (.int y :: .int x :: st) M := by
  obtain ⟨F, p, e, R, s, m, args, below, meth, c, nL⟩ := V
  obtain ⟨hx, hb, hml, hown, hts, hK, hI, hok, hlk, hr, rfl⟩ := C
  intro H locs ls hP hS hl
  exact lv_irem hx hb d hne (k H locs ls hP hS hl)
theorem gl_iushr {x y : Int32} (C : gl_C cc ws own rm ret lay V) (d : decode cc pc = .ok (.iushr, 1)) (k : gl_G lay ov M' V (pc + 1) L (.int (x.toUInt32 >>> (y.toUInt32 &&& Int32.toUInt32 31)).toInt32 :: st) M) : gl_G lay ov M' V pc L (.int y :: .int x :: st) M := by
  obtain ⟨F, p, e, R, s, m, args, below, meth, c, nL⟩ := V
  obtain ⟨hx, hb, hml, hown, hts, hK, hI, hok, hlk, hr, rfl⟩ := C
  intro H locs ls hP hS hl
  exact lv_iushr hx hb d rfl (k H locs ls hP hS hl)
theorem gl_iaddN {a b : Nat} (C : gl_C cc ws own rm ret lay V) (d : decode cc pc = .ok (.iadd, 1)) (k : gl_G lay ov M' V (pc + 1) L (.int (nI (a + b)) :: st) M) : gl_G lay ov M' V pc L (.int (nI b) :: .int (nI a) :: st) M := gl_iadd C d (by rw [nI_add]; exact k)
theorem gl_imulN {a b : Nat} (C : gl_C cc ws own rm ret lay V) (d : decode cc pc = .ok (.imul, 1)) (k : gl_G lay ov M' V (pc + 1) L (.int (nI (a * b)) :: st) M) : gl_G lay ov M' V pc L (.int (nI b) :: .int (nI a) :: st) M := gl_imul C d (by rw [pk_mul]; exact k)
theorem gl_ifnull {q : Nat} {off : Int} (C : gl_C cc ws own rm ret lay V) (d : decode cc pc = .ok (.ifnull off, 3)) (k : gl_G lay ov M' V (pc + 3) L st M) : gl_G lay ov M' V pc L (.ref q :: st) M := by
  obtain ⟨F, p, e, R, s, m, args, below, meth, c, nL⟩ := V
  obtain ⟨hx, hb, hml, hown, hts, hK, hI, hok, hlk, hr, rfl⟩ := C
  intro H locs ls hP hS hl
  exact lv_ifnull hx hb d (k H locs ls hP hS hl)
theorem gl_ifnonnull {q : Nat} {off : Int} (tgt : Nat) (C : gl_C cc ws own rm ret lay V) (d : decode cc pc = .ok (.ifnonnull off, 3)) (ht : (pc : Int) + off = (tgt : Int)) (k : gl_G lay ov M' V tgt L st M) : gl_G lay ov M' V pc L (.ref q :: st) M := by
  obtain ⟨F, p, e, R, s, m, args, below, meth, c, nL⟩ := V
  obtain ⟨hx, hb, hml, hown, hts, hK, hI, hok, hlk, hr, rfl⟩ := C
  intro H locs ls hP hS hl
  exact lv_ifnonnull hx hb d ht (k H locs ls hP hS hl)
theorem gl_ineg {x : Int32} (C : gl_C cc ws own rm ret lay V) (d : decode cc pc = .ok (.ineg, 1)) (k : gl_G lay ov M' V (pc + 1) L (.int (-x) :: st) M) : gl_G lay ov M' V pc L (.int x :: st) M := by
  obtain ⟨F, p, e, R, s, m, args, below, meth, c, nL⟩ := V
  obtain ⟨hx, hb, hml, hown, hts, hK, hI, hok, hlk, hr, rfl⟩ := C
  intro H locs ls hP hS hl
  exact lv_ineg hx hb d (k H locs ls hP hS hl)
theorem gl_dupI {x : Int32} (C : gl_C cc ws own rm ret lay V) (d : decode cc pc = .ok (.dup, 1)) (k : gl_G lay ov M' V (pc + 1) L (.int x :: .int x :: st) M) : gl_G lay ov M' V pc L (.int x :: st) M := by
  obtain ⟨F, p, e, R, s, m, args, below, meth, c, nL⟩ := V
  obtain ⟨hx, hb, hml, hown, hts, hK, hI, hok, hlk, hr, rfl⟩ := C
  intro H locs ls hP hS hl
  exact lv_dup hx hb d rfl (k H locs ls hP hS hl)
theorem gl_dupR {q : Nat} (C : gl_C cc ws own rm ret lay V) (d : decode cc pc = .ok (.dup, 1)) (k : gl_G lay ov M' V (pc + 1) L (.ref q :: .ref q :: st) M) : gl_G lay ov M' V pc L (.ref q :: st) M := by
  obtain ⟨F, p, e, R, s, m, args, below, meth, c, nL⟩ := V
  obtain ⟨hx, hb, hml, hown, hts, hK, hI, hok, hlk, hr, rfl⟩ := C
  intro H locs ls hP hS hl
  exact lv_dup hx hb d rfl (k H locs ls hP hS hl)
theorem gl_dup2 {x : Int32} {q : Nat} (C : gl_C cc ws own rm ret lay V) (d : decode cc pc = .ok (.dup2, 1)) (k : gl_G lay ov M' V (pc + 1) L (.int x :: .ref q :: .int x :: .ref q :: st) M) : gl_G lay ov M' V pc L (.int x :: .ref q :: st) M := by
  obtain ⟨F, p, e, R, s, m, args, below, meth, c, nL⟩ := V
  obtain ⟨hx, hb, hml, hown, hts, hK, hI, hok, hlk, hr, rfl⟩ := C
  intro H locs ls hP hS hl
  exact lv_dup2_11 hx hb d rfl rfl (k H locs ls hP hS hl)
theorem gl_goto {off : Int} (tgt : Nat) (C : gl_C cc ws own rm ret lay V) (d : decode cc pc = .ok (.goto off, 3)) (ht : (pc : Int) + off = (tgt : Int)) (k : gl_G lay ov M' V tgt L st M) : gl_G lay ov M' V pc L st M := by
  obtain ⟨F, p, e, R, s, m, args, below, meth, c, nL⟩ := V
  obtain ⟨hx, hb, hml, hown, hts, hK, hI, hok, hlk, hr, rfl⟩ := C
  intro H locs ls hP hS hl
  exact lv_goto hx hb d ht (k H locs ls hP hS hl)
theorem gl_icmp_eq {x y : Int32} {off : Int} (tgt : Nat) (C : gl_C cc ws own rm ret lay V) (d : decode cc pc = .ok (.if_icmp .eq off, 3)) (ht : (pc : Int) + off = (tgt : Int)) (kt : x = y → gl_G lay ov M' V tgt L st M) (kf : ¬ x = y → gl_G lay ov M' V (pc + 3) L st M) : gl_G lay ov M' V pc L (.int y :: .int x :: st) M := by
  obtain ⟨F, p, e, R, s, m, args, below, meth, c, nL⟩ := V
  obtain ⟨hx, hb, hml, hown, hts, hK, hI, hok, hlk, hr, rfl⟩ := C
  intro H locs ls hP hS hl
  exact lv_icmp_eq hx hb d ht (fun q => kt q H locs ls hP hS hl) (fun q => kf q H locs ls hP hS hl)
theorem gl_icmp_ne {x y : Int32} {off : Int} (tgt : Nat) (C : gl_C cc ws own rm ret lay V) (d : decode cc pc = .ok (.if_icmp .ne off, 3)) (ht : (pc : Int) + off = (tgt : Int)) (kt : ¬ x = y → gl_G lay ov M' V tgt L st M) (kf : x = y → gl_G lay ov M' V (pc + 3) L st M) : gl_G lay ov M' V pc L (.int y :: .int x :: st) M := by
  obtain ⟨F, p, e, R, s, m, args, below, meth, c, nL⟩ := V
  obtain ⟨hx, hb, hml, hown, hts, hK, hI, hok, hlk, hr, rfl⟩ := C
  intro H locs ls hP hS hl
  exact lv_icmp_ne hx hb d ht (fun q => kt q H locs ls hP hS hl) (fun q => kf q H locs ls hP hS hl)
theorem gl_icmp_lt {x y : Int32} {off : Int} (tgt : Nat) (C : gl_C cc ws own rm ret lay V) (d : decode cc pc = .ok (.if_icmp .lt off, 3)) (ht : (pc : Int) + off = (tgt : Int)) (kt : x < y → gl_G lay ov M' V tgt L st M) (kf : ¬ x < y → gl_G lay ov M' V (pc + 3) L st M) : gl_G lay ov M' V pc L (.int y :: .int x :: st) M := by
  obtain ⟨F, p, e, R, s, m, args, below, meth, c, nL⟩ := V
  obtain ⟨hx, hb, hml, hown, hts, hK, hI, hok, hlk, hr, rfl⟩ := C
  intro H locs ls hP hS hl
  exact lv_icmp_lt hx hb d ht (fun q => kt q H locs ls hP hS hl) (fun q => kf q H locs ls hP hS hl)
theorem gl_icmp_ge {x y : Int32} {off : Int} (tgt : Nat) (C : gl_C cc ws own rm ret lay V) (d : decode cc pc = .ok (.if_icmp .ge off, 3)) (ht : (pc : Int) + off = (tgt : Int)) (kt : y ≤ x → gl_G lay ov M' V tgt L st M) (kf : ¬ y ≤ x → gl_G lay ov M' V (pc + 3) L st M) : gl_G lay ov M' V pc L (.int y :: .int x :: st) M := by
  obtain ⟨F, p, e, R, s, m, args, below, meth, c, nL⟩ := V
  obtain ⟨hx, hb, hml, hown, hts, hK, hI, hok, hlk, hr, rfl⟩ := C
  intro H locs ls hP hS hl
  exact lv_icmp_ge hx hb d ht (fun q => kt q H locs ls hP hS hl) (fun q => kf q H locs ls hP hS hl)
theorem gl_icmp_gt {x y : Int32} {off : Int} (tgt : Nat) (C : gl_C cc ws own rm ret lay V) (d : decode cc pc = .ok (.if_icmp .gt off, 3)) (ht : (pc : Int) + off = (tgt : Int)) (kt : y < x → gl_G lay ov M' V tgt L st M) (kf : ¬ y < x → gl_G lay ov M' V (pc + 3) L st M) : gl_G lay ov M' V pc L (.int y :: .int x :: st) M := by
  obtain ⟨F, p, e, R, s, m, args, below, meth, c, nL⟩ := V
  obtain ⟨hx, hb, hml, hown, hts, hK, hI, hok, hlk, hr, rfl⟩ := C
  intro H locs ls hP hS hl
  exact lv_icmp_gt hx hb d ht (fun q => kt q H locs ls hP hS hl) (fun q => kf q H locs ls hP hS hl)
theorem gl_icmp_le {x y : Int32} {off : Int} (tgt : Nat) (C : gl_C cc ws own rm ret lay V) (d : decode cc pc = .ok (.if_icmp .le off, 3)) (ht : (pc : Int) + off = (tgt : Int)) (kt : x ≤ y → gl_G lay ov M' V tgt L st M) (kf : ¬ x ≤ y → gl_G lay ov M' V (pc + 3) L st M) : gl_G lay ov M' V pc L (.int y :: .int x :: st) M := by
  obtain ⟨F, p, e, R, s, m, args, below, meth, c, nL⟩ := V
  obtain ⟨hx, hb, hml, hown, hts, hK, hI, hok, hlk, hr, rfl⟩ := C
  intro H locs ls hP hS hl
  exact lv_icmp_le hx hb d ht (fun q => kt q H locs ls hP hS hl) (fun q => kf q H locs ls hP hS hl)
theorem gl_ifeq {x : Int32} {off : Int} (tgt : Nat) (C : gl_C cc ws own rm ret lay V) (d : decode cc pc = .ok (.ifCond .eq off, 3)) (ht : (pc : Int) + off = (tgt : Int)) (kt : x = 0 → gl_G lay ov M' V tgt L st M) (kf : ¬ x = 0 → gl_G lay ov M' V (pc + 3) L st M) : gl_G lay ov M' V pc L (.int x :: st) M := by
  obtain ⟨F, p, e, R, s, m, args, below, meth, c, nL⟩ := V
  obtain ⟨hx, hb, hml, hown, hts, hK, hI, hok, hlk, hr, rfl⟩ := C
  intro H locs ls hP hS hl
  exact lv_if_eq hx hb d ht (fun q => kt q H locs ls hP hS hl) (fun q => kf q H locs ls hP hS hl)
theorem gl_ifne {x : Int32} {off : Int} (tgt : Nat) (C : gl_C cc ws own rm ret lay V) (d : decode cc pc = .ok (.ifCond .ne off, 3)) (ht : (pc : Int) + off = (tgt : Int)) (kt : ¬ x = 0 → gl_G lay ov M' V tgt L st M) (kf : x = 0 → gl_G lay ov M' V (pc + 3) L st M) : gl_G lay ov M' V pc L (.int x :: st) M := by
  obtain ⟨F, p, e, R, s, m, args, below, meth, c, nL⟩ := V
  obtain ⟨hx, hb, hml, hown, hts, hK, hI, hok, hlk, hr, rfl⟩ := C
  intro H locs ls hP hS hl
  exact lv_if_ne hx hb d ht (fun q => kt q H locs ls hP hS hl) (fun q => kf q H locs ls hP hS hl)
theorem gl_iflt {x : Int32} {off : Int} (tgt : Nat) (C : gl_C cc ws own rm ret lay V) (d : decode cc pc = .ok (.ifCond .lt off, 3)) (ht : (pc : Int) + off = (tgt : Int)) (kt : x < 0 → gl_G lay ov M' V tgt L st M) (kf : ¬ x < 0 → gl_G lay ov M' V (pc + 3) L st M) : gl_G lay ov M' V pc L (.int x :: st) M := by
  obtain ⟨F, p, e, R, s, m, args, below, meth, c, nL⟩ := V
  obtain ⟨hx, hb, hml, hown, hts, hK, hI, hok, hlk, hr, rfl⟩ := C
  intro H locs ls hP hS hl
  exact lv_if_lt hx hb d ht (fun q => kt q H locs ls hP hS hl) (fun q => kf q H locs ls hP hS hl)
theorem gl_ifge {x : Int32} {off : Int} (tgt : Nat) (C : gl_C cc ws own rm ret lay V) (d : decode cc pc = .ok (.ifCond .ge off, 3)) (ht : (pc : Int) + off = (tgt : Int)) (kt : 0 ≤ x → gl_G lay ov M' V tgt L st M) (kf : ¬ 0 ≤ x → gl_G lay ov M' V (pc + 3) L st M) : gl_G lay ov M' V pc L (.int x :: st) M := by
  obtain ⟨F, p, e, R, s, m, args, below, meth, c, nL⟩ := V
  obtain ⟨hx, hb, hml, hown, hts, hK, hI, hok, hlk, hr, rfl⟩ := C
  intro H locs ls hP hS hl
  exact lv_if_ge hx hb d ht (fun q => kt q H locs ls hP hS hl) (fun q => kf q H locs ls hP hS hl)
theorem gl_ifgt {x : Int32} {off : Int} (tgt : Nat) (C : gl_C cc ws own rm ret lay V) (d : decode cc pc = .ok (.ifCond .gt off, 3)) (ht : (pc : Int) + off = (tgt : Int)) (kt : 0 < x → gl_G lay ov M' V tgt L st M) (kf : ¬ 0 < x → gl_G lay ov M' V (pc + 3) L st M) : gl_G lay ov M' V pc L (.int x :: st) M := by
  obtain ⟨F, p, e, R, s, m, args, below, meth, c, nL⟩ := V
  obtain ⟨hx, hb, hml, hown, hts, hK, hI, hok, hlk, hr, rfl⟩ := C
  intro H locs ls hP hS hl
  exact lv_if_gt hx hb d ht (fun q => kt q H locs ls hP hS hl) (fun q => kf q H locs ls hP hS hl)
theorem gl_ifle {x : Int32} {off : Int} (tgt : Nat) (C : gl_C cc ws own rm ret lay V) (d : decode cc pc = .ok (.ifCond .le off, 3)) (ht : (pc : Int) + off = (tgt : Int)) (kt : x ≤ 0 → gl_G lay ov M' V tgt L st M) (kf : ¬ x ≤ 0 → gl_G lay ov M' V (pc + 3) L st M) : gl_G lay ov M' V pc L (.int x :: st) M := by
  obtain ⟨F, p, e, R, s, m, args, below, meth, c, nL⟩ := V
  obtain ⟨hx, hb, hml, hown, hts, hK, hI, hok, hlk, hr, rfl⟩ := C
  intro H locs ls hP hS hl
  exact lv_if_le hx hb d ht (fun q => kt q H locs ls hP hS hl) (fun q => kf q H locs ls hP hS hl)
theorem gl_iload_0 {T : List (Option Value)} {x : Int32} (C : gl_C cc ws own rm ret lay V) (d : decode cc pc = .ok (.iload_n 0, 1)) (k : gl_G lay ov M' V (pc + 1) (some (.int x) :: T) (.int x :: st) M) : gl_G lay ov M' V pc (some (.int x) :: T) st M := by
  obtain ⟨F, p, e, R, s, m, args, below, meth, c, nL⟩ := V
  obtain ⟨hx, hb, hml, hown, hts, hK, hI, hok, hlk, hr, rfl⟩ := C
  intro H locs ls hP hS hl
  exact lv_iload_n hx hb d rfl (gl_L_at hl (i := 0) rfl) (k H locs ls hP hS hl)
theorem gl_istore_0 {o : Option Value} {T : List (Option Value)} {x : Int32} (C : gl_C cc ws own rm ret lay V) (d : decode cc pc = .ok (.istore_n 0, 1)) (k : gl_G lay ov M' V (pc + 1) (some (.int x) :: T) st M) : gl_G lay ov M' V pc (o :: T) (.int x :: st) M := by
  obtain ⟨F, p, e, R, s, m, args, below, meth, c, nL⟩ := V
  obtain ⟨hx, hb, hml, hown, hts, hK, hI, hok, hlk, hr, rfl⟩ := C
  intro H locs ls hP hS hl
  exact lv_istore_n hx hb d rfl (gl_L_has hl) (show 0 < nL by have := hl.2.2.1; simp at this; omega) rfl (fun ls' h' => k H locs ls' hP hS (gl_L_set (i := 0) hl rfl h'))
theorem gl_aload_0 {T : List (Option Value)} {q : Nat} (C : gl_C cc ws own rm ret lay V) (d : decode cc pc = .ok (.aload_n 0, 1)) (k : gl_G lay ov M' V (pc + 1) (some (.ref q) :: T) (.ref q :: st) M) : gl_G lay ov M' V pc (some (.ref q) :: T) st M := by
  obtain ⟨F, p, e, R, s, m, args, below, meth, c, nL⟩ := V
  obtain ⟨hx, hb, hml, hown, hts, hK, hI, hok, hlk, hr, rfl⟩ := C
  intro H locs ls hP hS hl
  exact lv_aload_n hx hb d rfl (gl_L_at hl (i := 0) rfl) (k H locs ls hP hS hl)
theorem gl_astore_0 {o : Option Value} {T : List (Option Value)} {q : Nat} (C : gl_C cc ws own rm ret lay V) (d : decode cc pc = .ok (.astore_n 0, 1)) (k : gl_G lay ov M' V (pc + 1) (some (.ref q) :: T) st M) : gl_G lay ov M' V pc (o :: T) (.ref q :: st) M := by
  obtain ⟨F, p, e, R, s, m, args, below, meth, c, nL⟩ := V
  obtain ⟨hx, hb, hml, hown, hts, hK, hI, hok, hlk, hr, rfl⟩ := C
  intro H locs ls hP hS hl
  exact lv_astore_n hx hb d rfl (gl_L_has hl) (show 0 < nL by have := hl.2.2.1; simp at this; omega) rfl (fun ls' h' => k H locs ls' hP hS (gl_L_set (i := 0) hl rfl h'))
theorem gl_iinc_0 {T : List (Option Value)} {x v : Int32} {n : Int} (C : gl_C cc ws own rm ret lay V) (d : decode cc pc = .ok (.iinc 0 n, 3)) (hn : x + Int32.ofInt n = v) (k : gl_G lay ov M' V (pc + 3) (some (.int (v)) :: T) st M) : gl_G lay ov M' V pc (some (.int (x)) :: T) st M := by
  obtain ⟨F, p, e, R, s, m, args, below, meth, c, nL⟩ := V
  obtain ⟨hx, hb, hml, hown, hts, hK, hI, hok, hlk, hr, rfl⟩ := C
  intro H locs ls hP hS hl
  obtain ⟨kk, hkk⟩ := List.mem_iff_getElem?.mp (gl_al_mem (i := 0).mpr (show (some (Value.int (x)) :: T)[0]? = some (some (.int (x))) from rfl))
  exact lv_iinc hx hb d (gl_L_has hl) hkk hn (show 0 < nL by have := hl.2.2.1; simp at this; omega) rfl (fun ls' h' => k H locs ls' hP hS (gl_L_set (i := 0) hl rfl h'))
theorem gl_iincN_0 {T : List (Option Value)} {a v : Nat} {n : Int} (hn : Int32.ofInt n = nI v) (C : gl_C cc ws own rm ret lay V) (d : decode cc pc = .ok (.iinc 0 n, 3)) (k : gl_G lay ov M' V (pc + 3) (some (.int (nI (a + v))) :: T) st M) : gl_G lay ov M' V pc (some (.int (nI a)) :: T) st M := gl_iinc_0 C d (by rw [hn]; exact nI_add a v) k
theorem gl_iload_1 {o0 : Option Value} {T : List (Option Value)} {x : Int32} (C : gl_C cc ws own rm ret lay V) (d : decode cc pc = .ok (.iload_n 1, 1)) (k : gl_G lay ov M' V (pc + 1) (o0 :: some (.int x) :: T) (.int x :: st) M) : gl_G lay ov M' V pc (o0 :: some (.int x) :: T) st M := by
  obtain ⟨F, p, e, R, s, m, args, below, meth, c, nL⟩ := V
  obtain ⟨hx, hb, hml, hown, hts, hK, hI, hok, hlk, hr, rfl⟩ := C
  intro H locs ls hP hS hl
  exact lv_iload_n hx hb d rfl (gl_L_at hl (i := 1) rfl) (k H locs ls hP hS hl)
theorem gl_istore_1 {o0 : Option Value} {o : Option Value} {T : List (Option Value)} {x : Int32} (C : gl_C cc ws own rm ret lay V) (d : decode cc pc = .ok (.istore_n 1, 1)) (k : gl_G lay ov M' V (pc + 1) (o0 :: some (.int x) :: T) st M) : gl_G lay ov M' V pc (o0 :: o :: T) (.int x :: st) M := by
  obtain ⟨F, p, e, R, s, m, args, below, meth, c, nL⟩ := V
  obtain ⟨hx, hb, hml, hown, hts, hK, hI, hok, hlk, hr, rfl⟩ := C
  intro H locs ls hP hS hl
  exact lv_istore_n hx hb d rfl (gl_L_has hl) (show 1 < nL by have := hl.2.2.1; simp at this; omega) rfl (fun ls' h' => k H locs ls' hP hS (gl_L_set (i := 1) hl rfl h'))
theorem gl_aload_1 {o0 : Option Value} {T : List (Option Value)} {q : Nat} (C : gl_C cc ws own rm ret lay V) (d : decode cc pc = .ok (.aload_n 1, 1)) (k : gl_G lay ov M' V (pc + 1) (o0 :: some (.ref q) :: T) (.ref q :: st) M) : gl_G lay ov M' V pc (o0 :: some (.ref q) :: T) st M := by
  obtain ⟨F, p, e, R, s, m, args, below, meth, c, nL⟩ := V
  obtain ⟨hx, hb, hml, hown, hts, hK, hI, hok, hlk, hr, rfl⟩ := C
  intro H locs ls hP hS hl
  exact lv_aload_n hx hb d rfl (gl_L_at hl (i := 1) rfl) (k H locs ls hP hS hl)
theorem gl_astore_1 {o0 : Option Value} {o : Option Value} {T : List (Option Value)} {q : Nat} (C : gl_C cc ws own rm ret lay V) (d : decode cc pc = .ok (.astore_n 1, 1)) (k : gl_G lay ov M' V (pc + 1) (o0 :: some (.ref q) :: T) st M) : gl_G lay ov M' V pc (o0 :: o :: T) (.ref q :: st) M := by
  obtain ⟨F, p, e, R, s, m, args, below, meth, c, nL⟩ := V
  obtain ⟨hx, hb, hml, hown, hts, hK, hI, hok, hlk, hr, rfl⟩ := C
  intro H locs ls hP hS hl
  exact lv_astore_n hx hb d rfl (gl_L_has hl) (show 1 < nL by have := hl.2.2.1; simp at this; omega) rfl (fun ls' h' => k H locs ls' hP hS (gl_L_set (i := 1) hl rfl h'))
theorem gl_iinc_1 {o0 : Option Value} {T : List (Option Value)} {x v : Int32} {n : Int} (C : gl_C cc ws own rm ret lay V) (d : decode cc pc = .ok (.iinc 1 n, 3)) (hn : x + Int32.ofInt n = v) (k : gl_G lay ov M' V (pc + 3) (o0 :: some (.int (v)) :: T) st M) : gl_G lay ov M' V pc (o0 :: some (.int (x)) :: T) st M := by
  obtain ⟨F, p, e, R, s, m, args, below, meth, c, nL⟩ := V
  obtain ⟨hx, hb, hml, hown, hts, hK, hI, hok, hlk, hr, rfl⟩ := C
  intro H locs ls hP hS hl
  obtain ⟨kk, hkk⟩ := List.mem_iff_getElem?.mp (gl_al_mem (i := 1).mpr (show (o0 :: some (Value.int (x)) :: T)[1]? = some (some (.int (x))) from rfl))
  exact lv_iinc hx hb d (gl_L_has hl) hkk hn (show 1 < nL by have := hl.2.2.1; simp at this; omega) rfl (fun ls' h' => k H locs ls' hP hS (gl_L_set (i := 1) hl rfl h'))
theorem gl_iincN_1 {o0 : Option Value} {T : List (Option Value)} {a v : Nat} {n : Int} (hn : Int32.ofInt n = nI v) (C : gl_C cc ws own rm ret lay V) (d : decode cc pc = .ok (.iinc 1 n, 3)) (k : gl_G lay ov M' V (pc + 3) (o0 :: some (.int (nI (a + v))) :: T) st M) : gl_G lay ov M' V pc (o0 :: some (.int (nI a)) :: T) st M := gl_iinc_1 C d (by rw [hn]; exact nI_add a v) k
theorem gl_iload_2 {o0 o1 : Option Value} {T : List (Option Value)} {x : Int32} (C : gl_C cc ws own rm ret lay V) (d : decode cc pc = .ok (.iload_n 2, 1)) (k : gl_G lay ov M' V (pc + 1) (o0 :: o1 :: some (.int x) :: T) (.int x :: st) M) : gl_G lay ov M' V pc (o0 :: o1 :: some (.int x) :: T) st M := by
  obtain ⟨F, p, e, R, s, m, args, below, meth, c, nL⟩ := V
  obtain ⟨hx, hb, hml, hown, hts, hK, hI, hok, hlk, hr, rfl⟩ := C
  intro H locs ls hP hS hl
  exact lv_iload_n hx hb d rfl (gl_L_at hl (i := 2) rfl) (k H locs ls hP hS hl)
theorem gl_istore_2 {o0 o1 : Option Value} {o : Option Value} {T : List (Option Value)} {x : Int32} (C : gl_C cc ws own rm ret lay V) (d : decode cc pc = .ok (.istore_n 2, 1)) (k : gl_G lay ov M' V (pc + 1) (o0 :: o1 :: some (.int x) :: T) st M) : gl_G lay ov M' V pc (o0 :: o1 :: o :: T) (.int x :: st) M := by
  obtain ⟨F, p, e, R, s, m, args, below, meth, c, nL⟩ := V
  obtain ⟨hx, hb, hml, hown, hts, hK, hI, hok, hlk, hr, rfl⟩ := C
  intro H locs ls hP hS hl
  exact lv_istore_n hx hb d rfl (gl_L_has hl) (show 2 < nL by have := hl.2.2.1; simp at this; omega) rfl (fun ls' h' => k H locs ls' hP hS (gl_L_set (i := 2) hl rfl h'))
theorem gl_aload_2 {o0 o1 : Option Value} {T : List (Option Value)} {q : Nat} (C : gl_C cc ws own rm ret lay V) (d : decode cc pc = .ok (.aload_n 2, 1)) (k : gl_G lay ov M' V (pc + 1) (o0 :: o1 :: some (.ref q) :: T) (.ref q :: st) M) : gl_G lay ov M' V pc (o0 :: o1 :: some (.ref q) :: T) st M := by
  obtain ⟨F, p, e, R, s, m, args, below, meth, c, nL⟩ := V
  obtain ⟨hx, hb, hml, hown, hts, hK, hI, hok, hlk, hr, rfl⟩ := C
  intro H locs ls hP hS hl
  exact lv_aload_n hx hb d rfl (gl_L_at hl (i := 2) rfl) (k H locs ls hP hS hl)
theorem gl_astore_2 {o0 o1 : Option Value} {o : Option Value} {T : List (Option Value)} {q : Nat} (C : gl_C cc ws own rm ret lay V) (d : decode cc pc = .ok (.astore_n 2, 1)) (k : gl_G lay ov M' V (pc + 1) (o0 :: o1 :: some (.ref q) :: T) st M) : gl_G lay ov M' V pc (o0 :: o1 :: o :: T) (.ref q :: st) M := by
  obtain ⟨F, p, e, R, s, m, args, below, meth, c, nL⟩ := V
  obtain ⟨hx, hb, hml, hown, hts, hK, hI, hok, hlk, hr, rfl⟩ := C
  intro H locs ls hP hS hl
  exact lv_astore_n hx hb d rfl (gl_L_has hl) (show 2 < nL by have := hl.2.2.1; simp at this; omega) rfl (fun ls' h' => k H locs ls' hP hS (gl_L_set (i := 2) hl rfl h'))
theorem gl_iinc_2 {o0 o1 : Option Value} {T : List (Option Value)} {x v : Int32} {n : Int} (C : gl_C cc ws own rm ret lay V) (d : decode cc pc = .ok (.iinc 2 n, 3)) (hn : x + Int32.ofInt n = v) (k : gl_G lay ov M' V (pc + 3) (o0 :: o1 :: some (.int (v)) :: T) st M) : gl_G lay ov M' V pc (o0 :: o1 :: some (.int (x)) :: T) st M := by
  obtain ⟨F, p, e, R, s, m, args, below, meth, c, nL⟩ := V
  obtain ⟨hx, hb, hml, hown, hts, hK, hI, hok, hlk, hr, rfl⟩ := C
  intro H locs ls hP hS hl
  obtain ⟨kk, hkk⟩ := List.mem_iff_getElem?.mp (gl_al_mem (i := 2).mpr (show (o0 :: o1 :: some (Value.int (x)) :: T)[2]? = some (some (.int (x))) from rfl))
  exact lv_iinc hx hb d (gl_L_has hl) hkk hn (show 2 < nL by have := hl.2.2.1; simp at this; omega) rfl (fun ls' h' => k H locs ls' hP hS (gl_L_set (i := 2) hl rfl h'))
theorem gl_iincN_2 {o0 o1 : Option Value} {T : List (Option Value)} {a v : Nat} {n : Int} (hn : Int32.ofInt n = nI v) (C : gl_C cc ws own rm ret lay V) (d : decode cc pc = .ok (.iinc 2 n, 3)) (k : gl_G lay ov M' V (pc + 3) (o0 :: o1 :: some (.int (nI (a + v))) :: T) st M) : gl_G lay ov M' V pc (o0 :: o1 :: some (.int (nI a)) :: T) st M := gl_iinc_2 C d (by rw [hn]; exact nI_add a v) k
theorem gl_iload_3 {o0 o1 o2 : Option Value} {T : List (Option Value)} {x : Int32} (C : gl_C cc ws own rm ret lay V) (d : decode cc pc = .ok (.iload_n 3, 1)) (k : gl_G lay ov M' V (pc + 1) (o0 :: o1 :: o2 :: some (.int x) :: T) (.int x :: st) M) : gl_G lay ov M' V pc (o0 :: o1 :: o2 :: some (.int x) :: T) st M := by
  obtain ⟨F, p, e, R, s, m, args, below, meth, c, nL⟩ := V
  obtain ⟨hx, hb, hml, hown, hts, hK, hI, hok, hlk, hr, rfl⟩ := C
  intro H locs ls hP hS hl
  exact lv_iload_n hx hb d rfl (gl_L_at hl (i := 3) rfl) (k H locs ls hP hS hl)
theorem gl_istore_3 {o0 o1 o2 : Option Value} {o : Option Value} {T : List (Option Value)} {x : Int32} (C : gl_C cc ws own rm ret lay V) (d : decode cc pc = .ok (.istore_n 3, 1)) (k : gl_G lay ov M' V (pc + 1) (o0 :: o1 :: o2 :: some (.int x) :: T) st M) : gl_G lay ov M' V pc (o0 :: o1 :: o2 :: o :: T) (.int x :: st) M := by
  obtain ⟨F, p, e, R, s, m, args, below, meth, c, nL⟩ := V
  obtain ⟨hx, hb, hml, hown, hts, hK, hI, hok, hlk, hr, rfl⟩ := C
  intro H locs ls hP hS hl
  exact lv_istore_n hx hb d rfl (gl_L_has hl) (show 3 < nL by have := hl.2.2.1; simp at this; omega) rfl (fun ls' h' => k H locs ls' hP hS (gl_L_set (i := 3) hl rfl h'))
theorem gl_aload_3 {o0 o1 o2 : Option Value} {T : List (Option Value)} {q : Nat} (C : gl_C cc ws own rm ret lay V) (d : decode cc pc = .ok (.aload_n 3, 1)) (k : gl_G lay ov M' V (pc + 1) (o0 :: o1 :: o2 :: some (.ref q) :: T) (.ref q :: st) M) : gl_G lay ov M' V pc (o0 :: o1 :: o2 :: some (.ref q) :: T) st M := by
  obtain ⟨F, p, e, R, s, m, args, below, meth, c, nL⟩ := V
  obtain ⟨hx, hb, hml, hown, hts, hK, hI, hok, hlk, hr, rfl⟩ := C
  intro H locs ls hP hS hl
  exact lv_aload_n hx hb d rfl (gl_L_at hl (i := 3) rfl) (k H locs ls hP hS hl)
theorem gl_astore_3 {o0 o1 o2 : Option Value} {o : Option Value} {T : List (Option Value)} {q : Nat} (C : gl_C cc ws own rm ret lay V) (d : decode cc pc = .ok (.astore_n 3, 1)) (k : gl_G lay ov M' V (pc + 1) (o0 :: o1 :: o2 :: some (.ref q) :: T) st M) : gl_G lay ov M' V pc (o0 :: o1 :: o2 :: o :: T) (.ref q :: st) M := by
  obtain ⟨F, p, e, R, s, m, args, below, meth, c, nL⟩ := V
  obtain ⟨hx, hb, hml, hown, hts, hK, hI, hok, hlk, hr, rfl⟩ := C
  intro H locs ls hP hS hl
  exact lv_astore_n hx hb d rfl (gl_L_has hl) (show 3 < nL by have := hl.2.2.1; simp at this; omega) rfl (fun ls' h' => k H locs ls' hP hS (gl_L_set (i := 3) hl rfl h'))
theorem gl_iinc_3 {o0 o1 o2 : Option Value} {T : List (Option Value)} {x v : Int32} {n : Int} (C : gl_C cc ws own rm ret lay V) (d : decode cc pc = .ok (.iinc 3 n, 3)) (hn : x + Int32.ofInt n = v) (k : gl_G lay ov M' V (pc + 3) (o0 :: o1 :: o2 :: some (.int (v)) :: T) st M) : gl_G lay ov M' V pc (o0 :: o1 :: o2 :: some (.int (x)) :: T) st M := by
  obtain ⟨F, p, e, R, s, m, args, below, meth, c, nL⟩ := V
  obtain ⟨hx, hb, hml, hown, hts, hK, hI, hok, hlk, hr, rfl⟩ := C
  intro H locs ls hP hS hl
  obtain ⟨kk, hkk⟩ := List.mem_iff_getElem?.mp (gl_al_mem (i := 3).mpr (show (o0 :: o1 :: o2 :: some (Value.int (x)) :: T)[3]? = some (some (.int (x))) from rfl))
  exact lv_iinc hx hb d (gl_L_has hl) hkk hn (show 3 < nL by have := hl.2.2.1; simp at this; omega) rfl (fun ls' h' => k H locs ls' hP hS (gl_L_set (i := 3) hl rfl h'))
theorem gl_iincN_3 {o0 o1 o2 : Option Value} {T : List (Option Value)} {a v : Nat} {n : Int} (hn : Int32.ofInt n = nI v) (C : gl_C cc ws own rm ret lay V) (d : decode cc pc = .ok (.iinc 3 n, 3)) (k : gl_G lay ov M' V (pc + 3) (o0 :: o1 :: o2 :: some (.int (nI (a + v))) :: T) st M) : gl_G lay ov M' V pc (o0 :: o1 :: o2 :: some (.int (nI a)) :: T) st M := gl_iinc_3 C d (by rw [hn]; exact nI_add a v) k
theorem gl_iload_4 {o0 o1 o2 o3 : Option Value} {T : List (Option Value)} {x : Int32} (C : gl_C cc ws own rm ret lay V) (d : decode cc pc = .ok (.iload 4, 2)) (k : gl_G lay ov M' V (pc + 2) (o0 :: o1 :: o2 :: o3 :: some (.int x) :: T) (.int x :: st) M) : gl_G lay ov M' V pc (o0 :: o1 :: o2 :: o3 :: some (.int x) :: T) st M := by
  obtain ⟨F, p, e, R, s, m, args, below, meth, c, nL⟩ := V
  obtain ⟨hx, hb, hml, hown, hts, hK, hI, hok, hlk, hr, rfl⟩ := C
  intro H locs ls hP hS hl
  exact lv_iload hx hb d (gl_L_at hl (i := 4) rfl) (k H locs ls hP hS hl)
theorem gl_istore_4 {o0 o1 o2 o3 : Option Value} {o : Option Value} {T : List (Option Value)} {x : Int32} (C : gl_C cc ws own rm ret lay V) (d : decode cc pc = .ok (.istore 4, 2)) (k : gl_G lay ov M' V (pc + 2) (o0 :: o1 :: o2 :: o3 :: some (.int x) :: T) st M) : gl_G lay ov M' V pc (o0 :: o1 :: o2 :: o3 :: o :: T) (.int x :: st) M := by
  obtain ⟨F, p, e, R, s, m, args, below, meth, c, nL⟩ := V
  obtain ⟨hx, hb, hml, hown, hts, hK, hI, hok, hlk, hr, rfl⟩ := C
  intro H locs ls hP hS hl
  exact lv_istore hx hb d (gl_L_has hl) (show 4 < nL by have := hl.2.2.1; simp at this; omega) rfl (fun ls' h' => k H locs ls' hP hS (gl_L_set (i := 4) hl rfl h'))
theorem gl_aload_4 {o0 o1 o2 o3 : Option Value} {T : List (Option Value)} {q : Nat} (C : gl_C cc ws own rm ret lay V) (d : decode cc pc = .ok (.aload 4, 2)) (k : gl_G lay ov M' V (pc + 2) (o0 :: o1 :: o2 :: o3 :: some (.ref q) :: T) (.ref q :: st) M) : gl_G lay ov M' V pc (o0 :: o1 :: o2 :: o3 :: some (.ref q) :: T) st M := by
  obtain ⟨F, p, e, R, s, m, args, below, meth, c, nL⟩ := V
  obtain ⟨hx, hb, hml, hown, hts, hK, hI, hok, hlk, hr, rfl⟩ := C
  intro H locs ls hP hS hl
  exact lv_aload hx hb d (gl_L_at hl (i := 4) rfl) (k H locs ls hP hS hl)
theorem gl_astore_4 {o0 o1 o2 o3 : Option Value} {o : Option Value} {T : List (Option Value)} {q : Nat} (C : gl_C cc ws own rm ret lay V) (d : decode cc pc = .ok (.astore 4, 2)) (k : gl_G lay ov M' V (pc + 2) (o0 :: o1 :: o2 :: o3 :: some (.ref q) :: T) st M) : gl_G lay ov M' V pc (o0 :: o1 :: o2 :: o3 :: o :: T) (.ref q :: st) M := by
  obtain ⟨F, p, e, R, s, m, args, below, meth, c, nL⟩ := V
  obtain ⟨hx, hb, hml, hown, hts, hK, hI, hok, hlk, hr, rfl⟩ := C
  intro H locs ls hP hS hl
  exact lv_astore hx hb d (gl_L_has hl) (show 4 < nL by have := hl.2.2.1; simp at this; omega) rfl (fun ls' h' => k H locs ls' hP hS (gl_L_set (i := 4) hl rfl h'))
theorem gl_iinc_4 {o0 o1 o2 o3 : Option Value} {T : List (Option Value)} {x v : Int32} {n : Int} (C : gl_C cc ws own rm ret lay V) (d : decode cc pc = .ok (.iinc 4 n, 3)) (hn : x + Int32.ofInt n = v) (k : gl_G lay ov M' V (pc + 3) (o0 :: o1 :: o2 :: o3 :: some (.int (v)) :: T) st M) : gl_G lay ov M' V pc (o0 :: o1 :: o2 :: o3 :: some (.int (x)) :: T) st M := by
  obtain ⟨F, p, e, R, s, m, args, below, meth, c, nL⟩ := V
  obtain ⟨hx, hb, hml, hown, hts, hK, hI, hok, hlk, hr, rfl⟩ := C
  intro H locs ls hP hS hl
  obtain ⟨kk, hkk⟩ := List.mem_iff_getElem?.mp (gl_al_mem (i := 4).mpr (show (o0 :: o1 :: o2 :: o3 :: some (Value.int (x)) :: T)[4]? = some (some (.int (x))) from rfl))
  exact lv_iinc hx hb d (gl_L_has hl) hkk hn (show 4 < nL by have := hl.2.2.1; simp at this; omega) rfl (fun ls' h' => k H locs ls' hP hS (gl_L_set (i := 4) hl rfl h'))
theorem gl_iincN_4 {o0 o1 o2 o3 : Option Value} {T : List (Option Value)} {a v : Nat} {n : Int} (hn : Int32.ofInt n = nI v) (C : gl_C cc ws own rm ret lay V) (d : decode cc pc = .ok (.iinc 4 n, 3)) (k : gl_G lay ov M' V (pc + 3) (o0 :: o1 :: o2 :: o3 :: some (.int (nI (a + v))) :: T) st M) : gl_G lay ov M' V pc (o0 :: o1 :: o2 :: o3 :: some (.int (nI a)) :: T) st M := gl_iinc_4 C d (by rw [hn]; exact nI_add a v) k
theorem gl_iload_5 {o0 o1 o2 o3 o4 : Option Value} {T : List (Option Value)} {x : Int32} (C : gl_C cc ws own rm ret lay V) (d : decode cc pc = .ok (.iload 5, 2)) (k : gl_G lay ov M' V (pc + 2) (o0 :: o1 :: o2 :: o3 :: o4 :: some (.int x) :: T) (.int x :: st) M) : gl_G lay ov M' V pc (o0 :: o1 :: o2 :: o3 :: o4 :: some (.int x) :: T) st M := by
  obtain ⟨F, p, e, R, s, m, args, below, meth, c, nL⟩ := V
  obtain ⟨hx, hb, hml, hown, hts, hK, hI, hok, hlk, hr, rfl⟩ := C
  intro H locs ls hP hS hl
  exact lv_iload hx hb d (gl_L_at hl (i := 5) rfl) (k H locs ls hP hS hl)
theorem gl_istore_5 {o0 o1 o2 o3 o4 : Option Value} {o : Option Value} {T : List (Option Value)} {x : Int32} (C : gl_C cc ws own rm ret lay V) (d : decode cc pc = .ok (.istore 5, 2)) (k : gl_G lay ov M' V (pc + 2) (o0 :: o1 :: o2 :: o3 :: o4 :: some (.int x) :: T) st M) : gl_G lay ov M' V pc (o0 :: o1 :: o2 :: o3 :: o4 :: o :: T) (.int x :: st) M := by
  obtain ⟨F, p, e, R, s, m, args, below, meth, c, nL⟩ := V
  obtain ⟨hx, hb, hml, hown, hts, hK, hI, hok, hlk, hr, rfl⟩ := C
  intro H locs ls hP hS hl
  exact lv_istore hx hb d (gl_L_has hl) (show 5 < nL by have := hl.2.2.1; simp at this; omega) rfl (fun ls' h' => k H locs ls' hP hS (gl_L_set (i := 5) hl rfl h'))
theorem gl_iinc_5 {o0 o1 o2 o3 o4 : Option Value} {T : List (Option Value)} {x v : Int32} {n : Int} (C : gl_C cc ws own rm ret lay V) (d : decode cc pc = .ok (.iinc 5 n, 3)) (hn : x + Int32.ofInt n = v) (k : gl_G lay ov M' V (pc + 3) (o0 :: o1 :: o2 :: o3 :: o4 :: some (.int (v)) :: T) st M) : gl_G lay ov M' V pc (o0 :: o1 :: o2 :: o3 :: o4 :: some (.int (x)) :: T) st M := by
  obtain ⟨F, p, e, R, s, m, args, below, meth, c, nL⟩ := V
  obtain ⟨hx, hb, hml, hown, hts, hK, hI, hok, hlk, hr, rfl⟩ := C
  intro H locs ls hP hS hl
  obtain ⟨kk, hkk⟩ := List.mem_iff_getElem?.mp (gl_al_mem (i := 5).mpr (show (o0 :: o1 :: o2 :: o3 :: o4 :: some (Value.int (x)) :: T)[5]? = some (some (.int (x))) from rfl))
  exact lv_iinc hx hb d (gl_L_has hl) hkk hn (show 5 < nL by have := hl.2.2.1; simp at this; omega) rfl (fun ls' h' => k H locs ls' hP hS (gl_L_set (i := 5) hl rfl h'))
theorem gl_iincN_5 {o0 o1 o2 o3 o4 : Option Value} {T : List (Option Value)} {a v : Nat} {n : Int} (hn : Int32.ofInt n = nI v) (C : gl_C cc ws own rm ret lay V) (d : decode cc pc = .ok (.iinc 5 n, 3)) (k : gl_G lay ov M' V (pc + 3) (o0 :: o1 :: o2 :: o3 :: o4 :: some (.int (nI (a + v))) :: T) st M) : gl_G lay ov M' V pc (o0 :: o1 :: o2 :: o3 :: o4 :: some (.int (nI a)) :: T) st M := gl_iinc_5 C d (by rw [hn]; exact nI_add a v) k
theorem gl_iload_6 {o0 o1 o2 o3 o4 o5 : Option Value} {T : List (Option Value)} {x : Int32} (C : gl_C cc ws own rm ret lay V) (d : decode cc pc = .ok (.iload 6, 2)) (k : gl_G lay ov M' V (pc + 2) (o0 :: o1 :: o2 :: o3 :: o4 :: o5 :: some (.int x) :: T) (.int x :: st) M) : gl_G lay ov M' V pc (o0 :: o1 :: o2 :: o3 :: o4 :: o5 :: some (.int x) :: T) st M := by
  obtain ⟨F, p, e, R, s, m, args, below, meth, c, nL⟩ := V
  obtain ⟨hx, hb, hml, hown, hts, hK, hI, hok, hlk, hr, rfl⟩ := C
  intro H locs ls hP hS hl
  exact lv_iload hx hb d (gl_L_at hl (i := 6) rfl) (k H locs ls hP hS hl)
theorem gl_istore_6 {o0 o1 o2 o3 o4 o5 : Option Value} {o : Option Value} {T : List (Option Value)} {x : Int32} (C : gl_C cc ws own rm ret lay V) (d : decode cc pc = .ok (.istore 6, 2)) (k : gl_G lay ov M' V (pc + 2) (o0 :: o1 :: o2 :: o3 :: o4 :: o5 :: some (.int x) :: T) st M) : gl_G lay ov M' V pc (o0 :: o1 :: o2 :: o3 :: o4 :: o5 :: o :: T) (.int x :: st) M := by
  obtain ⟨F, p, e, R, s, m, args, below, meth, c, nL⟩ := V
  obtain ⟨hx, hb, hml, hown, hts, hK, hI, hok, hlk, hr, rfl⟩ := C
  intro H locs ls hP hS hl
  exact lv_istore hx hb d (gl_L_has hl) (show 6 < nL by have := hl.2.2.1; simp at this; omega) rfl (fun ls' h' => k H locs ls' hP hS (gl_L_set (i := 6) hl rfl h'))
theorem gl_iinc_6 {o0 o1 o2 o3 o4 o5 : Option Value} {T : List (Option Value)} {x v : Int32} {n : Int} (C : gl_C cc ws own rm ret lay V) (d : decode cc pc = .ok (.iinc 6 n, 3)) (hn : x + Int32.ofInt n = v) (k : gl_G lay ov M' V (pc + 3) (o0 :: o1 :: o2 :: o3 :: o4 :: o5 :: some (.int (v)) :: T) st M) : gl_G lay ov M' V pc (o0 :: o1 :: o2 :: o3 :: o4 :: o5 :: some (.int (x)) :: T) st M := by
  obtain ⟨F, p, e, R, s, m, args, below, meth, c, nL⟩ := V
  obtain ⟨hx, hb, hml, hown, hts, hK, hI, hok, hlk, hr, rfl⟩ := C
  intro H locs ls hP hS hl
  obtain ⟨kk, hkk⟩ := List.mem_iff_getElem?.mp (gl_al_mem (i := 6).mpr (show (o0 :: o1 :: o2 :: o3 :: o4 :: o5 :: some (Value.int (x)) :: T)[6]? = some (some (.int (x))) from rfl))
  exact lv_iinc hx hb d (gl_L_has hl) hkk hn (show 6 < nL by have := hl.2.2.1; simp at this; omega) rfl (fun ls' h' => k H locs ls' hP hS (gl_L_set (i := 6) hl rfl h'))
theorem gl_iincN_6 {o0 o1 o2 o3 o4 o5 : Option Value} {T : List (Option Value)} {a v : Nat} {n : Int} (hn : Int32.ofInt n = nI v) (C : gl_C cc ws own rm ret lay V) (d : decode cc pc = .ok (.iinc 6 n, 3)) (k : gl_G lay ov M' V (pc + 3) (o0 :: o1 :: o2 :: o3 :: o4 :: o5 :: some (.int (nI (a + v))) :: T) st M) : gl_G lay ov M' V pc (o0 :: o1 :: o2 :: o3 :: o4 :: o5 :: some (.int (nI a)) :: T) st M := gl_iinc_6 C d (by rw [hn]; exact nI_add a v) k
theorem gl_iload_7 {o0 o1 o2 o3 o4 o5 o6 : Option Value} {T : List (Option Value)} {x : Int32} (C : gl_C cc ws own rm ret lay V) (d : decode cc pc = .ok (.iload 7, 2)) (k : gl_G lay ov M' V (pc + 2) (o0 :: o1 :: o2 :: o3 :: o4 :: o5 :: o6 :: some (.int x) :: T) (.int x :: st) M) : gl_G lay ov M' V pc (o0 :: o1 :: o2 :: o3 :: o4 :: o5 :: o6 :: some (.int x) :: T) st M := by
  obtain ⟨F, p, e, R, s, m, args, below, meth, c, nL⟩ := V
  obtain ⟨hx, hb, hml, hown, hts, hK, hI, hok, hlk, hr, rfl⟩ := C
  intro H locs ls hP hS hl
  exact lv_iload hx hb d (gl_L_at hl (i := 7) rfl) (k H locs ls hP hS hl)
theorem gl_istore_7 {o0 o1 o2 o3 o4 o5 o6 : Option Value} {o : Option Value} {T : List (Option Value)} {x : Int32} (C : gl_C cc ws own rm ret lay V) (d : decode cc pc = .ok (.istore 7, 2)) (k : gl_G lay ov M' V (pc + 2) (o0 :: o1 :: o2 :: o3 :: o4 :: o5 :: o6 :: some (.int x) :: T) st M) : gl_G lay ov M' V pc (o0 :: o1 :: o2 :: o3 :: o4 :: o5 :: o6 :: o :: T) (.int x :: st) M := by
  obtain ⟨F, p, e, R, s, m, args, below, meth, c, nL⟩ := V
  obtain ⟨hx, hb, hml, hown, hts, hK, hI, hok, hlk, hr, rfl⟩ := C
  intro H locs ls hP hS hl
  exact lv_istore hx hb d (gl_L_has hl) (show 7 < nL by have := hl.2.2.1; simp at this; omega) rfl (fun ls' h' => k H locs ls' hP hS (gl_L_set (i := 7) hl rfl h'))
theorem gl_iinc_7 {o0 o1 o2 o3 o4 o5 o6 : Option Value} {T : List (Option Value)} {x v : Int32} {n : Int} (C : gl_C cc ws own rm ret lay V) (d : decode cc pc = .ok (.iinc 7 n, 3)) (hn : x + Int32.ofInt n = v) (k : gl_G lay ov M' V (pc + 3) (o0 :: o1 :: o2 :: o3 :: o4 :: o5 :: o6 :: some (.int (v)) :: T) st M) : gl_G lay ov M' V pc (o0 :: o1 :: o2 :: o3 :: o4 :: o5 :: o6 :: some (.int (x)) :: T) st M := by
  obtain ⟨F, p, e, R, s, m, args, below, meth, c, nL⟩ := V
  obtain ⟨hx, hb, hml, hown, hts, hK, hI, hok, hlk, hr, rfl⟩ := C
  intro H locs ls hP hS hl
  obtain ⟨kk, hkk⟩ := List.mem_iff_getElem?.mp (gl_al_mem (i := 7).mpr (show (o0 :: o1 :: o2 :: o3 :: o4 :: o5 :: o6 :: some (Value.int (x)) :: T)[7]? = some (some (.int (x))) from rfl))
  exact lv_iinc hx hb d (gl_L_has hl) hkk hn (show 7 < nL by have := hl.2.2.1; simp at this; omega) rfl (fun ls' h' => k H locs ls' hP hS (gl_L_set (i := 7) hl rfl h'))
theorem gl_iincN_7 {o0 o1 o2 o3 o4 o5 o6 : Option Value} {T : List (Option Value)} {a v : Nat} {n : Int} (hn : Int32.ofInt n = nI v) (C : gl_C cc ws own rm ret lay V) (d : decode cc pc = .ok (.iinc 7 n, 3)) (k : gl_G lay ov M' V (pc + 3) (o0 :: o1 :: o2 :: o3 :: o4 :: o5 :: o6 :: some (.int (nI (a + v))) :: T) st M) : gl_G lay ov M' V pc (o0 :: o1 :: o2 :: o3 :: o4 :: o5 :: o6 :: some (.int (nI a)) :: T) st M := gl_iinc_7 C d (by rw [hn]; exact nI_add a v) k
theorem gl_iload_8 {o0 o1 o2 o3 o4 o5 o6 o7 : Option Value} {T : List (Option Value)} {x : Int32} (C : gl_C cc ws own rm ret lay V) (d : decode cc pc = .ok (.iload 8, 2)) (k : gl_G lay ov M' V (pc + 2) (o0 :: o1 :: o2 :: o3 :: o4 :: o5 :: o6 :: o7 :: some (.int x) :: T) (.int x :: st) M) : gl_G lay ov M' V pc (o0 :: o1 :: o2 :: o3 :: o4 :: o5 :: o6 :: o7 :: some (.int x) :: T) st M := by
  obtain ⟨F, p, e, R, s, m, args, below, meth, c, nL⟩ := V
  obtain ⟨hx, hb, hml, hown, hts, hK, hI, hok, hlk, hr, rfl⟩ := C
  intro H locs ls hP hS hl
  exact lv_iload hx hb d (gl_L_at hl (i := 8) rfl) (k H locs ls hP hS hl)
theorem gl_istore_8 {o0 o1 o2 o3 o4 o5 o6 o7 : Option Value} {o : Option Value} {T : List (Option Value)} {x : Int32} (C : gl_C cc ws own rm ret lay V) (d : decode cc pc = .ok (.istore 8, 2)) (k : gl_G lay ov M' V (pc + 2) (o0 :: o1 :: o2 :: o3 :: o4 :: o5 :: o6 :: o7 :: some (.int x) :: T) st M) : gl_G lay ov M' V pc (o0 :: o1 :: o2 :: o3 :: o4 :: o5 :: o6 :: o7 :: o :: T) (.int x :: st) M := by
  obtain ⟨F, p, e, R, s, m, args, below, meth, c, nL⟩ := V
  obtain ⟨hx, hb, hml, hown, hts, hK, hI, hok, hlk, hr, rfl⟩ := C
  intro H locs ls hP hS hl
  exact lv_istore hx hb d (gl_L_has hl) (show 8 < nL by have := hl.2.2.1; simp at this; omega) rfl (fun ls' h' => k H locs ls' hP hS (gl_L_set (i := 8) hl rfl h'))
theorem gl_iinc_8 {o0 o1 o2 o3 o4 o5 o6 o7 : Option Value} {T : List (Option Value)} {x v : Int32} {n : Int} (C : gl_C cc ws own rm ret lay V) (d : decode cc pc = .ok (.iinc 8 n, 3)) (hn : x + Int32.ofInt n = v) (k : gl_G lay ov M' V (pc + 3) (o0 :: o1 :: o2 :: o3 :: o4 :: o5 :: o6 :: o7 :: some (.int (v)) :: T) st M) : gl_G lay ov M' V pc (o0 :: o1 :: o2 :: o3 :: o4 :: o5 :: o6 :: o7 :: some (.int (x)) :: T) st M := by
  obtain ⟨F, p, e, R, s, m, args, below, meth, c, nL⟩ := V
  obtain ⟨hx, hb, hml, hown, hts, hK, hI, hok, hlk, hr, rfl⟩ := C
  intro H locs ls hP hS hl
  obtain ⟨kk, hkk⟩ := List.mem_iff_getElem?.mp (gl_al_mem (i := 8).mpr (show (o0 :: o1 :: o2 :: o3 :: o4 :: o5 :: o6 :: o7 :: some (Value.int (x)) :: T)[8]? = some (some (.int (x))) from rfl))
  exact lv_iinc hx hb d (gl_L_has hl) hkk hn (show 8 < nL by have := hl.2.2.1; simp at this; omega) rfl (fun ls' h' => k H locs ls' hP hS (gl_L_set (i := 8) hl rfl h'))
theorem gl_iincN_8 {o0 o1 o2 o3 o4 o5 o6 o7 : Option Value} {T : List (Option Value)} {a v : Nat} {n : Int} (hn : Int32.ofInt n = nI v) (C : gl_C cc ws own rm ret lay V) (d : decode cc pc = .ok (.iinc 8 n, 3)) (k : gl_G lay ov M' V (pc + 3) (o0 :: o1 :: o2 :: o3 :: o4 :: o5 :: o6 :: o7 :: some (.int (nI (a + v))) :: T) st M) : gl_G lay ov M' V pc (o0 :: o1 :: o2 :: o3 :: o4 :: o5 :: o6 :: o7 :: some (.int (nI a)) :: T) st M := gl_iinc_8 C d (by rw [hn]; exact nI_add a v) k
theorem gl_iload_9 {o0 o1 o2 o3 o4 o5 o6 o7 o8 : Option Value} {T : List (Option Value)} {x : Int32} (C : gl_C cc ws own rm ret lay V) (d : decode cc pc = .ok (.iload 9, 2)) (k : gl_G lay ov M' V (pc + 2) (o0 :: o1 :: o2 :: o3 :: o4 :: o5 :: o6 :: o7 :: o8 :: some (.int x) :: T) (.int x :: st) M) : gl_G lay ov M' V pc (o0 :: o1 :: o2 :: o3 :: o4 :: o5 :: o6 :: o7 :: o8 :: some (.int x) :: T) st M := by
  obtain ⟨F, p, e, R, s, m, args, below, meth, c, nL⟩ := V
  obtain ⟨hx, hb, hml, hown, hts, hK, hI, hok, hlk, hr, rfl⟩ := C
  intro H locs ls hP hS hl
  exact lv_iload hx hb d (gl_L_at hl (i := 9) rfl) (k H locs ls hP hS hl)
theorem gl_istore_9 {o0 o1 o2 o3 o4 o5 o6 o7 o8 : Option Value} {o : Option Value} {T : List (Option Value)} {x : Int32} (C : gl_C cc ws own rm ret lay V) (d : decode cc pc = .ok (.istore 9, 2)) (k : gl_G lay ov M' V (pc + 2) (o0 :: o1 :: o2 :: o3 :: o4 :: o5 :: o6 :: o7 :: o8 :: some (.int x) :: T) st M) : gl_G lay ov M' V pc (o0 :: o1 :: o2 :: o3 :: o4 :: o5 :: o6 :: o7 :: o8 :: o :: T) (.int x :: st) M := by
  obtain ⟨F, p, e, R, s, m, args, below, meth, c, nL⟩ := V
  obtain ⟨hx, hb, hml, hown, hts, hK, hI, hok, hlk, hr, rfl⟩ := C
  intro H locs ls hP hS hl
  exact lv_istore hx hb d (gl_L_has hl) (show 9 < nL by have := hl.2.2.1; simp at this; omega) rfl (fun ls' h' => k H locs ls' hP hS (gl_L_set (i := 9) hl rfl h'))
theorem gl_iinc_9 {o0 o1 o2 o3 o4 o5 o6 o7 o8 : Option Value} {T : List (Option Value)} {x v : Int32} {n : Int} (C : gl_C cc ws own rm ret lay V) (d : decode cc pc = .ok (.iinc 9 n, 3)) (hn : x + Int32.ofInt n = v) (k : gl_G lay ov M' V (pc + 3) (o0 :: o1 :: o2 :: o3 :: o4 :: o5 :: o6 :: o7 :: o8 :: some (.int (v)) :: T) st M) : gl_G lay ov M' V pc (o0 :: o1 :: o2 :: o3 :: o4 :: o5 :: o6 :: o7 :: o8 :: some (.int (x)) :: T) st M := by
  obtain ⟨F, p, e, R, s, m, args, below, meth, c, nL⟩ := V
  obtain ⟨hx, hb, hml, hown, hts, hK, hI, hok, hlk, hr, rfl⟩ := C
  intro H locs ls hP hS hl
  obtain ⟨kk, hkk⟩ := List.mem_iff_getElem?.mp (gl_al_mem (i := 9).mpr (show (o0 :: o1 :: o2 :: o3 :: o4 :: o5 :: o6 :: o7 :: o8 :: some (Value.int (x)) :: T)[9]? = some (some (.int (x))) from rfl))
  exact lv_iinc hx hb d (gl_L_has hl) hkk hn (show 9 < nL by have := hl.2.2.1; simp at this; omega) rfl (fun ls' h' => k H locs ls' hP hS (gl_L_set (i := 9) hl rfl h'))
theorem gl_iincN_9 {o0 o1 o2 o3 o4 o5 o6 o7 o8 : Option Value} {T : List (Option Value)} {a v : Nat} {n : Int} (hn : Int32.ofInt n = nI v) (C : gl_C cc ws own rm ret lay V) (d : decode cc pc = .ok (.iinc 9 n, 3)) (k : gl_G lay ov M' V (pc + 3) (o0 :: o1 :: o2 :: o3 :: o4 :: o5 :: o6 :: o7 :: o8 :: some (.int (nI (a + v))) :: T) st M) : gl_G lay ov M' V pc (o0 :: o1 :: o2 :: o3 :: o4 :: o5 :: o6 :: o7 :: o8 :: some (.int (nI a)) :: T) st M := gl_iinc_9 C d (by rw [hn]; exact nI_add a v) k
theorem gl_iload_10 {o0 o1 o2 o3 o4 o5 o6 o7 o8 o9 : Option Value} {T : List (Option Value)} {x : Int32} (C : gl_C cc ws own rm ret lay V) (d : decode cc pc = .ok (.iload 10, 2)) (k : gl_G lay ov M' V (pc + 2) (o0 :: o1 :: o2 :: o3 :: o4 :: o5 :: o6 :: o7 :: o8 :: o9 :: some (.int x) :: T) (.int x :: st) M) : gl_G lay ov M' V pc (o0 :: o1 :: o2 :: o3 :: o4 :: o5 :: o6 :: o7 :: o8 :: o9 :: some (.int x) :: T) st M := by
  obtain ⟨F, p, e, R, s, m, args, below, meth, c, nL⟩ := V
  obtain ⟨hx, hb, hml, hown, hts, hK, hI, hok, hlk, hr, rfl⟩ := C
  intro H locs ls hP hS hl
  exact lv_iload hx hb d (gl_L_at hl (i := 10) rfl) (k H locs ls hP hS hl)
theorem gl_istore_10 {o0 o1 o2 o3 o4 o5 o6 o7 o8 o9 : Option Value} {o : Option Value} {T : List (Option Value)} {x : Int32} (C : gl_C cc ws own rm ret lay V) (d : decode cc pc = .ok (.istore 10, 2)) (k : gl_G lay ov M' V (pc + 2) (o0 :: o1 :: o2 :: o3 :: o4 :: o5 :: o6 :: o7 :: o8 :: o9 :: some (.int x) :: T) st M) : gl_G lay ov M' V pc (o0 :: o1 :: o2 :: o3 :: o4 :: o5 :: o6 :: o7 :: o8 :: o9 :: o :: T) (.int x :: st) M := by
  obtain ⟨F, p, e, R, s, m, args, below, meth, c, nL⟩ := V
  obtain ⟨hx, hb, hml, hown, hts, hK, hI, hok, hlk, hr, rfl⟩ := C
  intro H locs ls hP hS hl
  exact lv_istore hx hb d (gl_L_has hl) (show 10 < nL by have := hl.2.2.1; simp at this; omega) rfl (fun ls' h' => k H locs ls' hP hS (gl_L_set (i := 10) hl rfl h'))
theorem gl_iinc_10 {o0 o1 o2 o3 o4 o5 o6 o7 o8 o9 : Option Value} {T : List (Option Value)} {x v : Int32} {n : Int} (C : gl_C cc ws own rm ret lay V) (d : decode cc pc = .ok (.iinc 10 n, 3)) (hn : x + Int32.ofInt n = v) (k : gl_G lay ov M' V (pc + 3) (o0 :: o1 :: o2 :: o3 :: o4 :: o5 :: o6 :: o7 :: o8 :: o9 :: some (.int (v)) :: T) st M) : gl_G lay ov M' V pc (o0 :: o1 :: o2 :: o3 :: o4 :: o5 :: o6 :: o7 :: o8 :: o9 :: some (.int (x)) :: T) st M := by
  obtain ⟨F, p, e, R, s, m, args, below, meth, c, nL⟩ := V
  obtain ⟨hx, hb, hml, hown, hts, hK, hI, hok, hlk, hr, rfl⟩ := C
  intro H locs ls hP hS hl
  obtain ⟨kk, hkk⟩ := List.mem_iff_getElem?.mp (gl_al_mem (i := 10).mpr (show (o0 :: o1 :: o2 :: o3 :: o4 :: o5 :: o6 :: o7 :: o8 :: o9 :: some (Value.int (x)) :: T)[10]? = some (some (.int (x))) from rfl))
  exact lv_iinc hx hb d (gl_L_has hl) hkk hn (show 10 < nL by have := hl.2.2.1; simp at this; omega) rfl (fun ls' h' => k H locs ls' hP hS (gl_L_set (i := 10) hl rfl h'))
theorem gl_iincN_10 {o0 o1 o2 o3 o4 o5 o6 o7 o8 o9 : Option Value} {T : List (Option Value)} {a v : Nat} {n : Int} (hn : Int32.ofInt n = nI v) (C : gl_C cc ws own rm ret lay V) (d : decode cc pc = .ok (.iinc 10 n, 3)) (k : gl_G lay ov M' V (pc + 3) (o0 :: o1 :: o2 :: o3 :: o4 :: o5 :: o6 :: o7 :: o8 :: o9 :: some (.int (nI (a + v))) :: T) st M) : gl_G lay ov M' V pc (o0 :: o1 :: o2 :: o3 :: o4 :: o5 :: o6 :: o7 :: o8 :: o9 :: some (.int (nI a)) :: T) st M := gl_iinc_10 C d (by rw [hn]; exact nI_add a v) k
theorem gl_iload_11 {o0 o1 o2 o3 o4 o5 o6 o7 o8 o9 o10 : Option Value} {T : List (Option Value)} {x : Int32} (C : gl_C cc ws own rm ret lay V) (d : decode cc pc = .ok (.iload 11, 2)) (k : gl_G lay ov M' V (pc + 2) (o0 :: o1 :: o2 :: o3 :: o4 :: o5 :: o6 :: o7 :: o8 :: o9 :: o10 :: some (.int x) :: T) (.int x :: st) M) : gl_G lay ov M' V pc (o0 :: o1 :: o2 :: o3 :: o4 :: o5 :: o6 :: o7 :: o8 :: o9 :: o10 :: some (.int x) :: T) st M := by
  obtain ⟨F, p, e, R, s, m, args, below, meth, c, nL⟩ := V
  obtain ⟨hx, hb, hml, hown, hts, hK, hI, hok, hlk, hr, rfl⟩ := C
  intro H locs ls hP hS hl
  exact lv_iload hx hb d (gl_L_at hl (i := 11) rfl) (k H locs ls hP hS hl)
theorem gl_istore_11 {o0 o1 o2 o3 o4 o5 o6 o7 o8 o9 o10 : Option Value} {o : Option Value} {T : List (Option Value)} {x : Int32} (C : gl_C cc ws own rm ret lay V) (d : decode cc pc = .ok (.istore 11, 2)) (k : gl_G lay ov M' V (pc + 2) (o0 :: o1 :: o2 :: o3 :: o4 :: o5 :: o6 :: o7 :: o8 :: o9 :: o10 :: some (.int x) :: T) st M) : gl_G lay ov M' V pc (o0 :: o1 :: o2 :: o3 :: o4 :: o5 :: o6 :: o7 :: o8 :: o9 :: o10 :: o :: T) (.int x :: st) M := by
  obtain ⟨F, p, e, R, s, m, args, below, meth, c, nL⟩ := V
  obtain ⟨hx, hb, hml, hown, hts, hK, hI, hok, hlk, hr, rfl⟩ := C
  intro H locs ls hP hS hl
  exact lv_istore hx hb d (gl_L_has hl) (show 11 < nL by have := hl.2.2.1; simp at this; omega) rfl (fun ls' h' => k H locs ls' hP hS (gl_L_set (i := 11) hl rfl h'))
theorem gl_iinc_11 {o0 o1 o2 o3 o4 o5 o6 o7 o8 o9 o10 : Option Value} {T : List (Option Value)} {x v : Int32} {n : Int} (C : gl_C cc ws own rm ret lay V) (d : decode cc pc = .ok (.iinc 11 n, 3)) (hn : x + Int32.ofInt n = v) (k : gl_G lay ov M' V (pc + 3) (o0 :: o1 :: o2 :: o3 :: o4 :: o5 :: o6 :: o7 :: o8 :: o9 :: o10 :: some (.int (v)) :: T) st M) : gl_G lay ov M' V pc (o0 :: o1 :: o2 :: o3 :: o4 :: o5 :: o6 :: o7 :: o8 :: o9 :: o10 :: some (.int (x)) :: T) st M := by
  obtain ⟨F, p, e, R, s, m, args, below, meth, c, nL⟩ := V
  obtain ⟨hx, hb, hml, hown, hts, hK, hI, hok, hlk, hr, rfl⟩ := C
  intro H locs ls hP hS hl
  obtain ⟨kk, hkk⟩ := List.mem_iff_getElem?.mp (gl_al_mem (i := 11).mpr (show (o0 :: o1 :: o2 :: o3 :: o4 :: o5 :: o6 :: o7 :: o8 :: o9 :: o10 :: some (Value.int (x)) :: T)[11]? = some (some (.int (x))) from rfl))
  exact lv_iinc hx hb d (gl_L_has hl) hkk hn (show 11 < nL by have := hl.2.2.1; simp at this; omega) rfl (fun ls' h' => k H locs ls' hP hS (gl_L_set (i := 11) hl rfl h'))
theorem gl_iincN_11 {o0 o1 o2 o3 o4 o5 o6 o7 o8 o9 o10 : Option Value} {T : List (Option Value)} {a v : Nat} {n : Int} (hn : Int32.ofInt n = nI v) (C : gl_C cc ws own rm ret lay V) (d : decode cc pc = .ok (.iinc 11 n, 3)) (k : gl_G lay ov M' V (pc + 3) (o0 :: o1 :: o2 :: o3 :: o4 :: o5 :: o6 :: o7 :: o8 :: o9 :: o10 :: some (.int (nI (a + v))) :: T) st M) : gl_G lay ov M' V pc (o0 :: o1 :: o2 :: o3 :: o4 :: o5 :: o6 :: o7 :: o8 :: o9 :: o10 :: some (.int (nI a)) :: T) st M := gl_iinc_11 C d (by rw [hn]; exact nI_add a v) k
/-- a field that an instruction of a method reads or writes: pool index, class, slot -/
def gl_fl (ws : List Cond) (own : String) (index ci k : Nat) : Prop := ∃ (Cl : String) (T : u_T) (N : Nat) (ref : String), vwCl[ci]? = some (Cl, T, N) ∧ k < N ∧ (∀ w ∈ u_ws Cl T N, w ∈ ws) ∧ Cond.fieldLink own index ref (T k).2.1 (T k).2.2.1 ∈ ws ∧ ref = (T k).1
def gl_fp (ws : List Cond) (own : String) (index ci k : Nat) : Prop := ∃ (Cl : String) (T : u_T) (N : Nat) (ref : String) (ty0 : Nat → FieldType), vwCl[ci]? = some (Cl, T, N) ∧ k < N ∧ (∀ w ∈ u_ws Cl T N, w ∈ ws) ∧ Cond.fieldLink own index ref (T k).2.1 (T k).2.2.1 ∈ ws ∧ ref = (T k).1 ∧ (∀ k, k < N → parseFieldDescriptor (T k).2.2.1 = some (ty0 k)) ∧ (∀ a, a < N → ∀ b, b < N → a ≠ b → (T a).2.1 ≠ (T b).2.1) ∧ (T k).2.2.2 = false ∧ parseFieldDescriptor (T k).2.2.1 = some .int
theorem gl_get {index j ci k : Nat} {fs : List (Nat ⊕ Nat)} {x : Nat ⊕ Nat} (C : gl_C cc ws own rm ret lay V) (d : decode cc pc = .ok (.getfield index, 3)) (f : gl_fl ws own index ci k) (hj : lay[j]? = some (.inr (.inl (ci, fs)))) (hk : fs[k]? = some x)
    (h : gl_G lay ov M' V (pc + 3) L (gl_v V.1 M x :: st) M) : gl_G lay ov M' V pc L (.ref (gl_r V.1 j) :: st) M := by
  obtain ⟨F, p, e, R, s, m, args, below, meth, c, nL⟩ := V
  obtain ⟨hx, hb, hml, hown, hts, hK, hI, hok, hlk, hr, rfl⟩ := C
  intro H locs ls hP hS hl
  obtain ⟨Cl, T, N, ref, f1, f2, f3, f4, f5⟩ := f
  subst f5
  exact va_get (D := F.2.1) (ci := ci) (v := gl_v F M x) (C := Cl) (T := T) (N := N) hx hb hts f3 hown hK hP j (gl_w_at hj) f1 k f2 (hts _ f4) (fun _ h9 => h9) (by rw [List.getElem?_map, hk]; rfl) d (h H locs ls hP hS hl)
theorem gl_getI {index j ci k i : Nat} {fs : List (Nat ⊕ Nat)} (C : gl_C cc ws own rm ret lay V) (d : decode cc pc = .ok (.getfield index, 3)) (f : gl_fl ws own index ci k) (hj : lay[j]? = some (.inr (.inl (ci, fs)))) (hk : fs[k]? = some (.inl i))
    (h : gl_G lay ov M' V (pc + 3) L (.int (M i) :: st) M) : gl_G lay ov M' V pc L (.ref (gl_r V.1 j) :: st) M := gl_get C d f hj hk h
theorem gl_getR {index j ci k i : Nat} {fs : List (Nat ⊕ Nat)} (C : gl_C cc ws own rm ret lay V) (d : decode cc pc = .ok (.getfield index, 3)) (f : gl_fl ws own index ci k) (hj : lay[j]? = some (.inr (.inl (ci, fs)))) (hk : fs[k]? = some (.inr i))
    (h : gl_G lay ov M' V (pc + 3) L (.ref (gl_r V.1 i) :: st) M) : gl_G lay ov M' V pc L (.ref (gl_r V.1 j) :: st) M := gl_get C d f hj hk h
theorem gl_put {index j ci k i : Nat} {fs : List (Nat ⊕ Nat)} {x : Int32} (C : gl_C cc ws own rm ret lay V) (d : decode cc pc = .ok (.putfield index, 3)) (f : gl_fp ws own index ci k) (hj : lay[j]? = some (.inr (.inl (ci, fs)))) (hk : fs[k]? = some (.inl i))
    (h : gl_G lay ov M' V (pc + 3) L st (upd M i x)) : gl_G lay ov M' V pc L (.int x :: .ref (gl_r V.1 j) :: st) M := by
  obtain ⟨F, p, e, R, s, m, args, below, meth, c, nL⟩ := V
  obtain ⟨hx, hb, hml, hown, hts, hK, hI, hok, hlk, hr, rfl⟩ := C
  intro H locs ls hP hS hl
  obtain ⟨Cl, T, N, ref, ty0, f1, f2, f3, f4, f5, f6, f7, f8, f9⟩ := f
  subst f5
  exact va_put (D := F.2.1) (ci := ci) (v := .int x) (ty := .int) (C := Cl) (T := T) (N := N) hx hb hts f3 ty0 f6 f7 hown hK hP (gl_w_D hI) hS j (gl_w_at hj) f1 k f2 (hts _ f4) (fun _ h9 => h9) f8 f9 rfl rfl (by rw [List.length_map]; exact (List.getElem?_eq_some_iff.mp hk).1) d (fun H1 locs1 hP1 _ hS1 => h H1 locs1 ls (gl_set_fld hok hj hk x ▸ hP1) hS1 hl)
theorem gl_iald {j n : Nat} {f : Nat → Nat} {i : Int32} (k : Nat) (C : gl_C cc ws own rm ret lay V) (d : decode cc pc = .ok (.iaload, 1)) (hj : lay[j]? = some (.inl (n, f))) (hi : i = nI k) (hk : k < n)
    (h : gl_G lay ov M' V (pc + 1) L (.int (M (f k)) :: st) M) : gl_G lay ov M' V pc L (.int i :: .ref (gl_r V.1 j) :: st) M := by
  obtain ⟨F, p, e, R, s, m, args, below, meth, c, nL⟩ := V
  obtain ⟨hx, hb, hml, hown, hts, hK, hI, hok, hlk, hr, rfl⟩ := C
  intro H locs ls hP hS hl
  have hn : n < 2 ^ 31 := hok.2 j _ hj
  subst hi
  have h1 := nI_clamp (n := k) (by omega)
  refine va_iald (D := F.2.1) hx hb hK hP j 0 (gl_w_at hj) rfl (vp_in_nI hk hn) d ?_
  rw [h1, if_pos hk]
  exact h H locs ls hP hS hl
theorem gl_iast {j n : Nat} {f : Nat → Nat} {i x : Int32} (k : Nat) (C : gl_C cc ws own rm ret lay V) (d : decode cc pc = .ok (.iastore, 1)) (hj : lay[j]? = some (.inl (n, f))) (hi : i = nI k) (hk : k < n)
    (h : gl_G lay ov M' V (pc + 1) L st (upd M (f k) x)) : gl_G lay ov M' V pc L (.int x :: .int i :: .ref (gl_r V.1 j) :: st) M := by
  obtain ⟨F, p, e, R, s, m, args, below, meth, c, nL⟩ := V
  obtain ⟨hx, hb, hml, hown, hts, hK, hI, hok, hlk, hr, rfl⟩ := C
  intro H locs ls hP hS hl
  have hn : n < 2 ^ 31 := hok.2 j _ hj
  subst hi
  have h1 := nI_clamp (n := k) (by omega)
  refine va_iast (D := F.2.1) hx hb hK hP (gl_w_D hI) hS j 0 (gl_w_at hj) rfl (vp_in_nI hk hn) d (fun H1 locs1 hP1 _ hS1 => ?_)
  rw [h1] at hP1
  exact h H1 locs1 ls (gl_set_arr hok hj hk x ▸ hP1) hS1 hl
theorem gl_aald {j n : Nat} {g : Nat → Nat} {i : Int32} (k : Nat) (C : gl_C cc ws own rm ret lay V) (d : decode cc pc = .ok (.aaload, 1)) (hj : lay[j]? = some (.inr (.inr (n, g)))) (hi : i = nI k) (hk : k < n)
    (h : gl_G lay ov M' V (pc + 1) L (.ref (gl_r V.1 (g k)) :: st) M) : gl_G lay ov M' V pc L (.int i :: .ref (gl_r V.1 j) :: st) M := by
  obtain ⟨F, p, e, R, s, m, args, below, meth, c, nL⟩ := V
  obtain ⟨hx, hb, hml, hown, hts, hK, hI, hok, hlk, hr, rfl⟩ := C
  intro H locs ls hP hS hl
  have hn : n < 2 ^ 31 := hok.2 j _ hj
  subst hi
  have h1 := nI_clamp (n := k) (by omega)
  refine va_aldq (D := F.2.1) hx hb hK hP j 1 (gl_w_at hj) rfl (vp_in_nI hk hn) d ?_
  rw [h1]
  exact h H locs ls hP hS hl
theorem gl_iret {v w : Int32} (C : gl_C cc ws own rm (some .int) lay V) (d : decode cc pc = .ok (.ireturn, 1)) (hv : v = w) (hM : M = M') : gl_G lay (some (.int w)) M' V pc L [.int v] M := by
  obtain ⟨F, p, e, R, s, m, args, below, meth, c, nL⟩ := V
  obtain ⟨hx, hb, hml, hown, hts, hK, hI, hok, hlk, hr, rfl⟩ := C
  subst hv
  subst hM
  intro H locs ls hP hS hl
  exact W.iret hx hb hr (fun t ht hW => ⟨rfl, by rw [ht]; exact hP, hS.F ht⟩) hS.2.2 d hlk
/-- a boolean's end: 0 or 1 -/
theorem gl_zret {v w : Int32} (C : gl_C cc ws own rm (some .boolean) lay V) (d : decode cc pc = .ok (.ireturn, 1)) (hn : narrow .boolean (.int v) = .int v) (hv : v = w) (hM : M = M') : gl_G lay (some (.int w)) M' V pc L [.int v] M := by
  obtain ⟨F, p, e, R, s, m, args, below, meth, c, nL⟩ := V
  obtain ⟨hx, hb, hml, hown, hts, hK, hI, hok, hlk, hr, rfl⟩ := C
  subst hv
  subst hM
  intro H locs ls hP hS hl
  exact W.zret hx hb hr hn (fun t ht hW => ⟨rfl, by rw [ht]; exact hP, hS.F ht⟩) hS.2.2 d hlk
theorem gl_vret (C : gl_C cc ws own rm none lay V) (d : decode cc pc = .ok (.return_, 1)) (hM : M = M') : gl_G lay none M' V pc L [] M := by
  obtain ⟨F, p, e, R, s, m, args, below, meth, c, nL⟩ := V
  obtain ⟨hx, hb, hml, hown, hts, hK, hI, hok, hlk, hr, rfl⟩ := C
  subst hM
  intro H locs ls hP hS hl
  exact W.vret hx hb hr (fun t ht hW => ⟨rfl, by rw [ht]; exact hP, hS.F ht⟩) hS.2.2 d hlk
/-! calls -/
theorem gl_blind {F : gl_F} {av : List Value} : FrameBlind (gl_Pc F lay av M) := fun a U g mk q => ⟨q.1, q.2.1, va_K.moved (u := U) (U := U.calling g mk a) (Vm.Alike.refl U.vm) q.2.2.1, q.2.2.2⟩
theorem gl_goon {F : gl_F} {p : Program} {e : Env} {R : Room} {s : State} {m : MethodId} {args : Array Value} {below : List Frame} {meth : Method} {c : Code} {nL : Nat} {H : Heap} {locs : List Loc} {ls : Array Slot} {ov1 : Option Value} {a : Array Value} {st0 : List Value}
    (hr : va_Run p F.1 e R s m args below meth c H locs 0 0 0 0 (F0 m pc ls st0) rest (gl_Q F lay ov1 M1 a) (gl_A F lay)) (hS : va_S (gl_A F lay) s.heap H locs) (hl : gl_L nL ls L)
    (k : gl_G lay ov M' (F, p, e, R, s, m, args, below, meth, c, nL) (pc + 3) L (ov1.toList ++ rest) M1) : W p F.1 e R s m args below meth c H locs 0 0 (MQ below (gl_Q F lay ov M') args s 0 0 (gl_A F lay)) (F0 m pc ls st0) := by
  intro T hT X
  obtain ⟨v, st₀, t, T', L2, h0, X', hL, e1, e2, ⟨hv, hp, hz, hk⟩, st⟩ := hr T hT X
  cases hv
  rw [h0] at hz hk
  obtain ⟨t2, a1, b1⟩ := k T'.heap (locs ++ L2) ls (by rw [e1]; exact hp) ⟨Nat.le_trans hS.1 (by rw [e1]; exact hz), fun q h1 h2 => by rw [e1, hk q (Nat.lt_of_lt_of_le h1 hS.1) h2]; exact hS.2.1 q h1 h2, fun q hq => by
      rcases List.mem_append.mp hq with h | h
      · exact hS.2.2 q h
      · exact hL q h⟩ hl T' rfl X'
  exact ⟨t2, st t2 a1, b1⟩
def gl_hd (y : MethodName) (Cl : String) (n : Nat) : Prop := y.cls = Cl ∧ y.cls ≠ "java/lang/invoke/MethodHandle" ∧ y.cls ≠ "java/lang/invoke/VarHandle" ∧ (parseMethodDescriptor y.desc).map (fun d => d.parameters.length) = some n
theorem gl_callV {index j ci n maxL N : Nat} {T : u_T} {fs : List (Nat ⊕ Nat)} {Cl : String} {y : MethodName} {wsc wsc' : List Cond} {bytes : ByteArray} {retc : Option FieldType} {rmc : Room} {As : List Value} {ov1 : Option Value}
    (C : gl_C cc ws own rm ret lay V) (d : decode cc pc = .ok (.invokevirtual index, 3)) (g : GoodIn ws (wsV own index Cl y wsc)) (hw : wsc = Cond.code y bytes maxL retc :: wsc') (hd : gl_hd y Cl n)
    (hrm : rmc.cells = 0 ∧ rmc.slots = 0 ∧ rmc.frames + 1 ≤ rm.frames ∧ 8 + (maxL + 11) + rmc.locals ≤ rm.locals) (hn : As.length = n) (hrest : (rest.map fun v => v.category).sum ≤ 8) (hst : st = As.reverse ++ .ref (gl_r V.1 j) :: rest)
    (hj : lay[j]? = some (.inr (.inl (ci, fs)))) (hci : vwCl[ci]? = some (Cl, T, N)) (ct : gl_Ct V.1 lay y wsc rmc (.ref (gl_r V.1 j) :: As) M ov1 M1)
    (k : gl_G lay ov M' V (pc + 3) L (ov1.toList ++ rest) M1) : gl_G lay ov M' V pc L st M := by
  obtain ⟨F, p, e, R, s, m, args, below, meth, c, nL⟩ := V
  obtain ⟨hx, hb, hml, hown, hts, hK, hI, hok, hlk, hr, rfl⟩ := C
  intro H locs ls hP hS hl
  subst hst
  refine gl_goon (va_runV (As := As) (rest := rest) ⟨hx, hb, hml, hown, hts⟩ ct (cwV n hts g hw hrm.1 hrm.2.1 hd hrm.2.2) ⟨gl_blind, va_recv hK hP hci (gl_w_at hj), fun U hU hW => ⟨rfl, by rw [hU]; exact hP, va_K.moved hW.alike hK, hI⟩⟩ rfl hn hl.1 rfl (lv_room hrest) d ⟨Nat.zero_le _, Nat.zero_le _⟩) hS hl k
theorem gl_callS {index n maxL : Nat} {y : MethodName} {wsc wsc' : List Cond} {bytes : ByteArray} {retc : Option FieldType} {rmc : Room} {As : List Value} {ov1 : Option Value}
    (C : gl_C cc ws own rm ret lay V) (d : decode cc pc = .ok (.invokestatic index, 3)) (g : GoodIn ws (va_wsS own index y wsc)) (hw : wsc = Cond.code y bytes maxL retc :: wsc') (hd : gl_hd y y.cls n)
    (hrm : rmc.cells = 0 ∧ rmc.slots = 0 ∧ rmc.frames + 1 ≤ rm.frames ∧ 8 + (maxL + 11) + rmc.locals ≤ rm.locals) (hn : As.length = n) (hrest : (rest.map fun v => v.category).sum ≤ 8) (hst : st = As.reverse ++ rest)
    (ct : gl_Ct V.1 lay y wsc rmc As M ov1 M1)
    (k : gl_G lay ov M' V (pc + 3) L (ov1.toList ++ rest) M1) : gl_G lay ov M' V pc L st M := by
  obtain ⟨F, p, e, R, s, m, args, below, meth, c, nL⟩ := V
  obtain ⟨hx, hb, hml, hown, hts, hK, hI, hok, hlk, hr, rfl⟩ := C
  intro H locs ls hP hS hl
  subst hst
  refine gl_goon (va_runS (As := As) (rest := rest) ⟨hx, hb, hml, hown, hts⟩ ct (va_cwS n hts g hw hrm.1 hrm.2.1 hd.2 hrm.2.2) ⟨gl_blind, fun U hU hW => ⟨rfl, by rw [hU]; exact hP, va_K.moved hW.alike hK, hI⟩⟩ rfl hn hl.1 rfl (lv_room hrest) d ⟨Nat.zero_le _, Nat.zero_le _⟩) hS hl k
theorem gl_callVi {index j ci n maxL N : Nat} {T : u_T} {fs : List (Nat ⊕ Nat)} {Cl : String} {y : MethodName} {wsc wsc' : List Cond} {bytes : ByteArray} {retc : Option FieldType} {rmc : Room} {As : List Value} {v : Int32}
    (ct : gl_Ct V.1 lay y wsc rmc (.ref (gl_r V.1 j) :: As) M (some (.int v)) M1) (C : gl_C cc ws own rm ret lay V) (d : decode cc pc = .ok (.invokevirtual index, 3)) (g : GoodIn ws (wsV own index Cl y wsc)) (hw : wsc = Cond.code y bytes maxL retc :: wsc') (hd : gl_hd y Cl n)
    (hrm : rmc.cells = 0 ∧ rmc.slots = 0 ∧ rmc.frames + 1 ≤ rm.frames ∧ 8 + (maxL + 11) + rmc.locals ≤ rm.locals) (hn : As.length = n) (hrest : (rest.map fun v => v.category).sum ≤ 8) (hst : st = As.reverse ++ .ref (gl_r V.1 j) :: rest)
    (hj : lay[j]? = some (.inr (.inl (ci, fs)))) (hci : vwCl[ci]? = some (Cl, T, N)) (k : gl_G lay ov M' V (pc + 3) L (.int v :: rest) M1) : gl_G lay ov M' V pc L st M :=
  gl_callV C d g hw hd hrm hn hrest hst hj hci ct k
theorem gl_callVv {index j ci n maxL N : Nat} {T : u_T} {fs : List (Nat ⊕ Nat)} {Cl : String} {y : MethodName} {wsc wsc' : List Cond} {bytes : ByteArray} {retc : Option FieldType} {rmc : Room} {As : List Value}
    (ct : gl_Ct V.1 lay y wsc rmc (.ref (gl_r V.1 j) :: As) M none M1) (C : gl_C cc ws own rm ret lay V) (d : decode cc pc = .ok (.invokevirtual index, 3)) (g : GoodIn ws (wsV own index Cl y wsc)) (hw : wsc = Cond.code y bytes maxL retc :: wsc') (hd : gl_hd y Cl n)
    (hrm : rmc.cells = 0 ∧ rmc.slots = 0 ∧ rmc.frames + 1 ≤ rm.frames ∧ 8 + (maxL + 11) + rmc.locals ≤ rm.locals) (hn : As.length = n) (hrest : (rest.map fun v => v.category).sum ≤ 8) (hst : st = As.reverse ++ .ref (gl_r V.1 j) :: rest)
    (hj : lay[j]? = some (.inr (.inl (ci, fs)))) (hci : vwCl[ci]? = some (Cl, T, N)) (k : gl_G lay ov M' V (pc + 3) L rest M1) : gl_G lay ov M' V pc L st M :=
  gl_callV C d g hw hd hrm hn hrest hst hj hci ct k
theorem gl_callSi {index n maxL : Nat} {y : MethodName} {wsc wsc' : List Cond} {bytes : ByteArray} {retc : Option FieldType} {rmc : Room} {As : List Value} {v : Int32}
    (ct : gl_Ct V.1 lay y wsc rmc As M (some (.int v)) M1) (C : gl_C cc ws own rm ret lay V) (d : decode cc pc = .ok (.invokestatic index, 3)) (g : GoodIn ws (va_wsS own index y wsc)) (hw : wsc = Cond.code y bytes maxL retc :: wsc') (hd : gl_hd y y.cls n)
    (hrm : rmc.cells = 0 ∧ rmc.slots = 0 ∧ rmc.frames + 1 ≤ rm.frames ∧ 8 + (maxL + 11) + rmc.locals ≤ rm.locals) (hn : As.length = n) (hrest : (rest.map fun v => v.category).sum ≤ 8) (hst : st = As.reverse ++ rest)
    (k : gl_G lay ov M' V (pc + 3) L (.int v :: rest) M1) : gl_G lay ov M' V pc L st M := gl_callS C d g hw hd hrm hn hrest hst ct k
theorem gl_callSv {index n maxL : Nat} {y : MethodName} {wsc wsc' : List Cond} {bytes : ByteArray} {retc : Option FieldType} {rmc : Room} {As : List Value}
    (ct : gl_Ct V.1 lay y wsc rmc As M none M1) (C : gl_C cc ws own rm ret lay V) (d : decode cc pc = .ok (.invokestatic index, 3)) (g : GoodIn ws (va_wsS own index y wsc)) (hw : wsc = Cond.code y bytes maxL retc :: wsc') (hd : gl_hd y y.cls n)
    (hrm : rmc.cells = 0 ∧ rmc.slots = 0 ∧ rmc.frames + 1 ≤ rm.frames ∧ 8 + (maxL + 11) + rmc.locals ≤ rm.locals) (hn : As.length = n) (hrest : (rest.map fun v => v.category).sum ≤ 8) (hst : st = As.reverse ++ rest)
    (k : gl_G lay ov M' V (pc + 3) L rest M1) : gl_G lay ov M' V pc L st M := gl_callS C d g hw hd hrm hn hrest hst ct k
theorem gl_abs {index : Nat} {x : Int32} (C : gl_C cc ws own rm ret lay V) (d : decode cc pc = .ok (.invokestatic index, 3)) (h1 : Cond.methodLink own index Lib.Math.abs.name ∈ ws) (h2 : Cond.static Lib.Math.abs.name ∈ ws) (h3 : Cond.initialized "java/lang/Math" ∈ ws) (h4 : Cond.code Lib.Math.abs.name Lib.Math.abs.code 1 (some .int) ∈ ws)
    (hrm : 1 ≤ rm.frames ∧ (st.map fun v => v.category).sum + 13 ≤ rm.locals) (k : gl_G lay ov M' V (pc + 3) L (.int (if 0 ≤ x then x else 0 - x) :: st) M) : gl_G lay ov M' V pc L (.int x :: st) M := by
  obtain ⟨F, p, e, R, s, m, args, below, meth, c, nL⟩ := V
  obtain ⟨hx, hb, hml, hown, hts, hK, hI, hok, hlk, hr, rfl⟩ := C
  intro H locs ls hP hS hl
  exact va_mabs hx hb (by rw [hml]; exact hl.1.symm) hown (hts _ h1) (hts _ h2) (hts _ h3) (hts _ h4) hrm.1 hrm.2 (Nat.zero_le _) (Nat.zero_le _) d (k H locs ls hP hS hl)
theorem gl_min {index : Nat} {x y : Int32} (C : gl_C cc ws own rm ret lay V) (d : decode cc pc = .ok (.invokestatic index, 3)) (h1 : Cond.methodLink own index Lib.Math.min.name ∈ ws) (h2 : Cond.static Lib.Math.min.name ∈ ws) (h3 : Cond.initialized "java/lang/Math" ∈ ws) (h4 : Cond.code Lib.Math.min.name Lib.Math.min.code 2 (some .int) ∈ ws)
    (hrm : 1 ≤ rm.frames ∧ (st.map fun v => v.category).sum + 13 ≤ rm.locals) (k : gl_G lay ov M' V (pc + 3) L (.int (if y < x then y else x) :: st) M) : gl_G lay ov M' V pc L (.int y :: .int x :: st) M := by
  obtain ⟨F, p, e, R, s, m, args, below, meth, c, nL⟩ := V
  obtain ⟨hx, hb, hml, hown, hts, hK, hI, hok, hlk, hr, rfl⟩ := C
  intro H locs ls hP hS hl
  exact va_mmin hx hb (by rw [hml]; exact hl.1.symm) hown (hts _ h1) (hts _ h2) (hts _ h3) (hts _ h4) hrm.1 hrm.2 (Nat.zero_le _) (Nat.zero_le _) d (k H locs ls hP hS hl)
/-- one row of numbers whole into another one -/
theorem gl_copy {index j0 j1 n : Nat} {f0 f1 : Nat → Nat} (C : gl_C cc ws own rm ret lay V) (d : decode cc pc = .ok (.invokestatic index, 3)) (h1 : Cond.methodLink own index arraycopyName ∈ ws) (h2 : Cond.native arraycopyName ∈ ws) (h3 : Cond.static arraycopyName ∈ ws) (h4 : Cond.initialized "java/lang/System" ∈ ws)
    (hrm : 1 ≤ rm.frames ∧ (st.map fun v => v.category).sum + (nativeFrameWords "java/lang/System" "arraycopy" 5 + 11) ≤ rm.locals)
    (hj0 : lay[j0]? = some (.inl (n, f0))) (hj1 : lay[j1]? = some (.inl (n, f1))) (M1 : Nat → Int32) (g1 : ∀ k, k < n → M1 (f1 k) = M (f0 k)) (g2 : ∀ (j : Nat) (c : gl_Ce) (k i : Nat), lay[j]? = some c → j ≠ j1 → gl_at c k = some i → M1 i = M i)
    (k : gl_G lay ov M' V (pc + 3) L st M1) : gl_G lay ov M' V pc L (.int (nI n) :: .int (nI 0) :: .ref (gl_r V.1 j1) :: .int (nI 0) :: .ref (gl_r V.1 j0) :: st) M := by
  obtain ⟨F, p, e, R, s, m, args, below, meth, c, nL⟩ := V
  obtain ⟨hx, hb, hml, hown, hts, hK, hI, hok, hlk, hr, rfl⟩ := C
  intro H locs ls hP hS hl
  have hn : n < 2 ^ 31 := hok.2 j0 _ hj0
  have e0 : (nI 0).toNatClampNeg = 0 := nI_clamp (by omega)
  have en : (nI n).toNatClampNeg = n := nI_clamp hn
  refine va_copyi (D := F.2.1) (ty := .int) hx hb (by rw [hml]; exact hl.1.symm) hown (hts _ h1) (hts _ h2) (hts _ h3) (hts _ h4) hK hP (gl_w_D hI) hS j0 j1 0 0 (gl_w_at hj0) (gl_w_at hj1) rfl rfl rfl (nI_pos (by omega)) (nI_pos (by omega)) (nI_pos hn) (by rw [e0, en]; omega) (by rw [e0, en]; omega) (fun _ _ => rfl) hrm.1 hrm.2 d (fun H1 locs1 hP1 _ hS1 => ?_)
  refine k H1 locs1 ls ?_ hS1 hl
  rw [e0, en] at hP1
  have e : (gl_w F lay M).set j1 (gl_r F j1, .inl (F.2.2.1, n, .inl (va_cpy (fun i => if i < n then M (f0 i) else 0) (fun i => if i < n then M (f1 i) else 0) 0 0 n))) = gl_w F lay M1 := by
    apply List.ext_getElem?
    intro j'
    by_cases hjj : j' = j1
    · subst hjj
      rw [List.getElem?_set_self (by rw [gl_w_len]; exact (List.getElem?_eq_some_iff.mp hj1).1), gl_w_at hj1]
      have e : va_cpy (fun i => if i < n then M (f0 i) else 0) (fun i => if i < n then M (f1 i) else 0) 0 0 n = (fun i => if i < n then M1 (f1 i) else 0) := by
        funext i
        unfold va_cpy
        by_cases hi : i < n
        · rw [if_pos ⟨Nat.zero_le _, by omega⟩]
          show (if 0 + (i - 0) < n then M (f0 (0 + (i - 0))) else 0) = _
          rw [Nat.zero_add, Nat.sub_zero, if_pos hi, if_pos hi, g1 i hi]
        · rw [if_neg (by omega)]
          show (if i < n then M (f1 i) else 0) = _
          rw [if_neg hi, if_neg hi]
      simp only [gl_e, e]
    · rw [List.getElem?_set_ne (Ne.symm hjj)]
      cases hc : lay[j']? with
      | none =>
        rw [List.getElem?_eq_none (by rw [gl_w_len]; exact List.getElem?_eq_none_iff.mp hc), List.getElem?_eq_none (by rw [gl_w_len]; exact List.getElem?_eq_none_iff.mp hc)]
      | some c =>
        rw [gl_w_at hc, gl_w_at hc, gl_e_upd (c := c) (M := M) (M' := M1)]
        intro k' i' hi
        exact g2 j' c k' i' hc hjj hi
  exact e ▸ hP1
end GLR
end
section
/-! ===== where the numbers stand: a house's 378 numbers, as the model's row has them ===== -/
def iC (c w : Nat) : Nat := 28 + 6 * c + w
def iK (k w : Nat) : Nat := 58 + 8 * k + w
/-- whose cell, which place: of a house's numbers -/
def owH (i : Nat) : Nat × Nat := if i = 0 then (0, 0) else if i = 1 then (2, 0) else if i = 2 then (9, 0) else if i = 3 then (2, 1) else if i < 28 then (1, i - 4) else if i < 58 then (3 + (i - 28) % 6, (i - 28) / 6) else (10 + (i - 58) % 8, (i - 58) / 8)

def LH : List gl_Ce := [.inr (.inl (3, [.inl 0, .inr 1, .inr 2, .inr 9])),
  .inl (24, fun h => (4 + h)),
  .inr (.inl (1, [.inl 1, .inl 3, .inr 3, .inr 4, .inr 5, .inr 6, .inr 7, .inr 8])),
  .inl (5, fun c => iC c 0),
  .inl (5, fun c => iC c 1),
  .inl (5, fun c => iC c 2),
  .inl (5, fun c => iC c 3),
  .inl (5, fun c => iC c 4),
  .inl (5, fun c => iC c 5),
  .inr (.inl (0, [.inl 2, .inr 10, .inr 11, .inr 12, .inr 13, .inr 14, .inr 15, .inr 16, .inr 17])),
  .inl (40, fun k => iK k 0),
  .inl (40, fun k => iK k 1),
  .inl (40, fun k => iK k 2),
  .inl (40, fun k => iK k 3),
  .inl (40, fun k => iK k 4),
  .inl (40, fun k => iK k 5),
  .inl (40, fun k => iK k 6),
  .inl (40, fun k => iK k 7)]
theorem ok_LH : gl_ok LH := gl_ok_of (ow := owH) (by decide +kernel)
/-- two houses -/
def L2 : List gl_Ce := [.inr (.inl (3, [.inl 0, .inr 1, .inr 2, .inr 9])),
  .inl (24, fun h => (4 + h)),
  .inr (.inl (1, [.inl 1, .inl 3, .inr 3, .inr 4, .inr 5, .inr 6, .inr 7, .inr 8])),
  .inl (5, fun c => iC c 0),
  .inl (5, fun c => iC c 1),
  .inl (5, fun c => iC c 2),
  .inl (5, fun c => iC c 3),
  .inl (5, fun c => iC c 4),
  .inl (5, fun c => iC c 5),
  .inr (.inl (0, [.inl 2, .inr 10, .inr 11, .inr 12, .inr 13, .inr 14, .inr 15, .inr 16, .inr 17])),
  .inl (40, fun k => iK k 0),
  .inl (40, fun k => iK k 1),
  .inl (40, fun k => iK k 2),
  .inl (40, fun k => iK k 3),
  .inl (40, fun k => iK k 4),
  .inl (40, fun k => iK k 5),
  .inl (40, fun k => iK k 6),
  .inl (40, fun k => iK k 7),
  .inr (.inl (3, [.inl 378, .inr 19, .inr 20, .inr 27])),
  .inl (24, fun h => 378 + (4 + h)),
  .inr (.inl (1, [.inl 379, .inl 381, .inr 21, .inr 22, .inr 23, .inr 24, .inr 25, .inr 26])),
  .inl (5, fun c => 378 + iC c 0),
  .inl (5, fun c => 378 + iC c 1),
  .inl (5, fun c => 378 + iC c 2),
  .inl (5, fun c => 378 + iC c 3),
  .inl (5, fun c => 378 + iC c 4),
  .inl (5, fun c => 378 + iC c 5),
  .inr (.inl (0, [.inl 380, .inr 28, .inr 29, .inr 30, .inr 31, .inr 32, .inr 33, .inr 34, .inr 35])),
  .inl (40, fun k => 378 + iK k 0),
  .inl (40, fun k => 378 + iK k 1),
  .inl (40, fun k => 378 + iK k 2),
  .inl (40, fun k => 378 + iK k 3),
  .inl (40, fun k => 378 + iK k 4),
  .inl (40, fun k => 378 + iK k 5),
  .inl (40, fun k => 378 + iK k 6),
  .inl (40, fun k => 378 + iK k 7)]
theorem ok_L2 : gl_ok L2 := gl_ok_of (ow := fun i => if i < 378 then owH i else ((owH (i - 378)).1 + 18, (owH (i - 378)).2)) (by decide +kernel)
/-- a GoalLifts: the house, the forecast, the five states of the history; itself, its history, the row of states -/
def LC : List gl_Ce := [.inr (.inl (3, [.inl 0, .inr 1, .inr 2, .inr 9])),
  .inl (24, fun h => (4 + h)),
  .inr (.inl (1, [.inl 1, .inl 3, .inr 3, .inr 4, .inr 5, .inr 6, .inr 7, .inr 8])),
  .inl (5, fun c => iC c 0),
  .inl (5, fun c => iC c 1),
  .inl (5, fun c => iC c 2),
  .inl (5, fun c => iC c 3),
  .inl (5, fun c => iC c 4),
  .inl (5, fun c => iC c 5),
  .inr (.inl (0, [.inl 2, .inr 10, .inr 11, .inr 12, .inr 13, .inr 14, .inr 15, .inr 16, .inr 17])),
  .inl (40, fun k => iK k 0),
  .inl (40, fun k => iK k 1),
  .inl (40, fun k => iK k 2),
  .inl (40, fun k => iK k 3),
  .inl (40, fun k => iK k 4),
  .inl (40, fun k => iK k 5),
  .inl (40, fun k => iK k 6),
  .inl (40, fun k => iK k 7),
  .inr (.inl (3, [.inl 378, .inr 19, .inr 20, .inr 27])),
  .inl (24, fun h => 378 + (4 + h)),
  .inr (.inl (1, [.inl 379, .inl 381, .inr 21, .inr 22, .inr 23, .inr 24, .inr 25, .inr 26])),
  .inl (5, fun c => 378 + iC c 0),
  .inl (5, fun c => 378 + iC c 1),
  .inl (5, fun c => 378 + iC c 2),
  .inl (5, fun c => 378 + iC c 3),
  .inl (5, fun c => 378 + iC c 4),
  .inl (5, fun c => 378 + iC c 5),
  .inr (.inl (0, [.inl 380, .inr 28, .inr 29, .inr 30, .inr 31, .inr 32, .inr 33, .inr 34, .inr 35])),
  .inl (40, fun k => 378 + iK k 0),
  .inl (40, fun k => 378 + iK k 1),
  .inl (40, fun k => 378 + iK k 2),
  .inl (40, fun k => 378 + iK k 3),
  .inl (40, fun k => 378 + iK k 4),
  .inl (40, fun k => 378 + iK k 5),
  .inl (40, fun k => 378 + iK k 6),
  .inl (40, fun k => 378 + iK k 7),
  .inr (.inl (3, [.inl 756, .inr 37, .inr 38, .inr 45])),
  .inl (24, fun h => 756 + (4 + h)),
  .inr (.inl (1, [.inl 757, .inl 759, .inr 39, .inr 40, .inr 41, .inr 42, .inr 43, .inr 44])),
  .inl (5, fun c => 756 + iC c 0),
  .inl (5, fun c => 756 + iC c 1),
  .inl (5, fun c => 756 + iC c 2),
  .inl (5, fun c => 756 + iC c 3),
  .inl (5, fun c => 756 + iC c 4),
  .inl (5, fun c => 756 + iC c 5),
  .inr (.inl (0, [.inl 758, .inr 46, .inr 47, .inr 48, .inr 49, .inr 50, .inr 51, .inr 52, .inr 53])),
  .inl (40, fun k => 756 + iK k 0),
  .inl (40, fun k => 756 + iK k 1),
  .inl (40, fun k => 756 + iK k 2),
  .inl (40, fun k => 756 + iK k 3),
  .inl (40, fun k => 756 + iK k 4),
  .inl (40, fun k => 756 + iK k 5),
  .inl (40, fun k => 756 + iK k 6),
  .inl (40, fun k => 756 + iK k 7),
  .inr (.inl (3, [.inl 1134, .inr 55, .inr 56, .inr 63])),
  .inl (24, fun h => 1134 + (4 + h)),
  .inr (.inl (1, [.inl 1135, .inl 1137, .inr 57, .inr 58, .inr 59, .inr 60, .inr 61, .inr 62])),
  .inl (5, fun c => 1134 + iC c 0),
  .inl (5, fun c => 1134 + iC c 1),
  .inl (5, fun c => 1134 + iC c 2),
  .inl (5, fun c => 1134 + iC c 3),
  .inl (5, fun c => 1134 + iC c 4),
  .inl (5, fun c => 1134 + iC c 5),
  .inr (.inl (0, [.inl 1136, .inr 64, .inr 65, .inr 66, .inr 67, .inr 68, .inr 69, .inr 70, .inr 71])),
  .inl (40, fun k => 1134 + iK k 0),
  .inl (40, fun k => 1134 + iK k 1),
  .inl (40, fun k => 1134 + iK k 2),
  .inl (40, fun k => 1134 + iK k 3),
  .inl (40, fun k => 1134 + iK k 4),
  .inl (40, fun k => 1134 + iK k 5),
  .inl (40, fun k => 1134 + iK k 6),
  .inl (40, fun k => 1134 + iK k 7),
  .inr (.inl (3, [.inl 1512, .inr 73, .inr 74, .inr 81])),
  .inl (24, fun h => 1512 + (4 + h)),
  .inr (.inl (1, [.inl 1513, .inl 1515, .inr 75, .inr 76, .inr 77, .inr 78, .inr 79, .inr 80])),
  .inl (5, fun c => 1512 + iC c 0),
  .inl (5, fun c => 1512 + iC c 1),
  .inl (5, fun c => 1512 + iC c 2),
  .inl (5, fun c => 1512 + iC c 3),
  .inl (5, fun c => 1512 + iC c 4),
  .inl (5, fun c => 1512 + iC c 5),
  .inr (.inl (0, [.inl 1514, .inr 82, .inr 83, .inr 84, .inr 85, .inr 86, .inr 87, .inr 88, .inr 89])),
  .inl (40, fun k => 1512 + iK k 0),
  .inl (40, fun k => 1512 + iK k 1),
  .inl (40, fun k => 1512 + iK k 2),
  .inl (40, fun k => 1512 + iK k 3),
  .inl (40, fun k => 1512 + iK k 4),
  .inl (40, fun k => 1512 + iK k 5),
  .inl (40, fun k => 1512 + iK k 6),
  .inl (40, fun k => 1512 + iK k 7),
  .inr (.inl (3, [.inl 1890, .inr 91, .inr 92, .inr 99])),
  .inl (24, fun h => 1890 + (4 + h)),
  .inr (.inl (1, [.inl 1891, .inl 1893, .inr 93, .inr 94, .inr 95, .inr 96, .inr 97, .inr 98])),
  .inl (5, fun c => 1890 + iC c 0),
  .inl (5, fun c => 1890 + iC c 1),
  .inl (5, fun c => 1890 + iC c 2),
  .inl (5, fun c => 1890 + iC c 3),
  .inl (5, fun c => 1890 + iC c 4),
  .inl (5, fun c => 1890 + iC c 5),
  .inr (.inl (0, [.inl 1892, .inr 100, .inr 101, .inr 102, .inr 103, .inr 104, .inr 105, .inr 106, .inr 107])),
  .inl (40, fun k => 1890 + iK k 0),
  .inl (40, fun k => 1890 + iK k 1),
  .inl (40, fun k => 1890 + iK k 2),
  .inl (40, fun k => 1890 + iK k 3),
  .inl (40, fun k => 1890 + iK k 4),
  .inl (40, fun k => 1890 + iK k 5),
  .inl (40, fun k => 1890 + iK k 6),
  .inl (40, fun k => 1890 + iK k 7),
  .inr (.inl (3, [.inl 2268, .inr 109, .inr 110, .inr 117])),
  .inl (24, fun h => 2268 + (4 + h)),
  .inr (.inl (1, [.inl 2269, .inl 2271, .inr 111, .inr 112, .inr 113, .inr 114, .inr 115, .inr 116])),
  .inl (5, fun c => 2268 + iC c 0),
  .inl (5, fun c => 2268 + iC c 1),
  .inl (5, fun c => 2268 + iC c 2),
  .inl (5, fun c => 2268 + iC c 3),
  .inl (5, fun c => 2268 + iC c 4),
  .inl (5, fun c => 2268 + iC c 5),
  .inr (.inl (0, [.inl 2270, .inr 118, .inr 119, .inr 120, .inr 121, .inr 122, .inr 123, .inr 124, .inr 125])),
  .inl (40, fun k => 2268 + iK k 0),
  .inl (40, fun k => 2268 + iK k 1),
  .inl (40, fun k => 2268 + iK k 2),
  .inl (40, fun k => 2268 + iK k 3),
  .inl (40, fun k => 2268 + iK k 4),
  .inl (40, fun k => 2268 + iK k 5),
  .inl (40, fun k => 2268 + iK k 6),
  .inl (40, fun k => 2268 + iK k 7),
  .inr (.inl (4, [.inr 0, .inr 18, .inr 127])),
  .inr (.inl (2, [.inl 2646, .inl 2647, .inr 128])),
  .inr (.inr (5, fun k => 36 + 18 * k))]
theorem ok_LC : gl_ok LC := gl_ok_of (ow := fun i => if i < 2646 then ((owH (i % 378)).1 + 18 * (i / 378), (owH (i % 378)).2) else (127, i - 2646)) (by decide +kernel)
/-- the model -/
def LM : List gl_Ce := [.inr (.inl (5, [.inr 1, .inr 2, .inr 3, .inr 4, .inl 378])),
  .inl (378, fun i => i),
  .inl (1890, fun i => 1200 + i),
  .inl (378, fun i => 400 + i),
  .inl (378, fun i => 800 + i)]
theorem ok_LM : gl_ok LM := gl_ok_of (ow := fun i => if i < 378 then (1, i) else if i = 378 then (0, 4) else if i < 800 then (3, i - 400) else if i < 1200 then (4, i - 800) else (2, i - 1200)) (by decide +kernel)
abbrev rmX4_addCar : Room := { frames := 4, cells := 0, slots := 0, locals := 94 }
theorem hdX4_addCar : gl_hd yX4_addCar RX4 3 := ⟨rfl, by decide +kernel, by decide +kernel, by decide +kernel⟩
abbrev rmX4_setAwake : Room := { frames := 4, cells := 0, slots := 0, locals := 94 }
theorem hdX4_setAwake : gl_hd yX4_setAwake RX4 2 := ⟨rfl, by decide +kernel, by decide +kernel, by decide +kernel⟩
abbrev rmX4_hold : Room := { frames := 4, cells := 0, slots := 0, locals := 94 }
theorem hdX4_hold : gl_hd yX4_hold RX4 2 := ⟨rfl, by decide +kernel, by decide +kernel, by decide +kernel⟩
abbrev rmX4_fail : Room := { frames := 4, cells := 0, slots := 0, locals := 94 }
theorem hdX4_fail : gl_hd yX4_fail RX4 1 := ⟨rfl, by decide +kernel, by decide +kernel, by decide +kernel⟩
abbrev rmX4_repair : Room := { frames := 4, cells := 0, slots := 0, locals := 94 }
theorem hdX4_repair : gl_hd yX4_repair RX4 1 := ⟨rfl, by decide +kernel, by decide +kernel, by decide +kernel⟩
abbrev rmX4_call : Room := { frames := 5, cells := 0, slots := 0, locals := 112 }
theorem hdX4_call : gl_hd yX4_call RX4 2 := ⟨rfl, by decide +kernel, by decide +kernel, by decide +kernel⟩
abbrev rmX4_pass : Room := { frames := 6, cells := 0, slots := 0, locals := 133 }
theorem hdX4_pass : gl_hd yX4_pass RX4 1 := ⟨rfl, by decide +kernel, by decide +kernel, by decide +kernel⟩
abbrev rmX4_undo : Room := { frames := 4, cells := 0, slots := 0, locals := 95 }
theorem hdX4_undo : gl_hd yX4_undo RX4 0 := ⟨rfl, by decide +kernel, by decide +kernel, by decide +kernel⟩
abbrev rmX4_count : Room := { frames := 4, cells := 0, slots := 0, locals := 87 }
theorem hdX4_count : gl_hd yX4_count RX4 1 := ⟨rfl, by decide +kernel, by decide +kernel, by decide +kernel⟩
abbrev rmX4_car : Room := { frames := 3, cells := 0, slots := 0, locals := 70 }
theorem hdX4_car : gl_hd yX4_car RX4 2 := ⟨rfl, by decide +kernel, by decide +kernel, by decide +kernel⟩
abbrev rmX4_caller : Room := { frames := 1, cells := 0, slots := 0, locals := 21 }
theorem hdX4_caller : gl_hd yX4_caller RX4 2 := ⟨rfl, by decide +kernel, by decide +kernel, by decide +kernel⟩
abbrev rmX4_group : Room := { frames := 4, cells := 0, slots := 0, locals := 88 }
theorem hdX4_group : gl_hd yX4_group RX4 2 := ⟨rfl, by decide +kernel, by decide +kernel, by decide +kernel⟩
abbrev rmX4_cost : Room := { frames := 4, cells := 0, slots := 0, locals := 86 }
theorem hdX4_cost : gl_hd yX4_cost RX4 3 := ⟨rfl, by decide +kernel, by decide +kernel, by decide +kernel⟩
abbrev rmX4_would : Room := { frames := 5, cells := 0, slots := 0, locals := 112 }
theorem hdX4_would : gl_hd yX4_would RX4 2 := ⟨rfl, by decide +kernel, by decide +kernel, by decide +kernel⟩
abbrev rmX4_thereIn : Room := { frames := 6, cells := 0, slots := 0, locals := 133 }
theorem hdX4_thereIn : gl_hd yX4_thereIn RX4 1 := ⟨rfl, by decide +kernel, by decide +kernel, by decide +kernel⟩
abbrev rmX4_waits : Room := { frames := 1, cells := 0, slots := 0, locals := 23 }
theorem hdX4_waits : gl_hd yX4_waits RX4 1 := ⟨rfl, by decide +kernel, by decide +kernel, by decide +kernel⟩
abbrev rmX4_worstCar : Room := { frames := 7, cells := 0, slots := 0, locals := 155 }
theorem hdX4_worstCar : gl_hd yX4_worstCar RX4 1 := ⟨rfl, by decide +kernel, by decide +kernel, by decide +kernel⟩
abbrev rmX4_isFloor : Room := { frames := 0, cells := 0, slots := 0, locals := 0 }
theorem hdX4_isFloor : gl_hd yX4_isFloor RX4 1 := ⟨rfl, by decide +kernel, by decide +kernel, by decide +kernel⟩
abbrev rmX4_isWay : Room := { frames := 1, cells := 0, slots := 0, locals := 20 }
theorem hdX4_isWay : gl_hd yX4_isWay RX4 2 := ⟨rfl, by decide +kernel, by decide +kernel, by decide +kernel⟩
abbrev rmX4_allThereInWithout : Room := { frames := 6, cells := 0, slots := 0, locals := 133 }
theorem hdX4_allThereInWithout : gl_hd yX4_allThereInWithout RX4 1 := ⟨rfl, by decide +kernel, by decide +kernel, by decide +kernel⟩
abbrev rmX5_in : Room := { frames := 0, cells := 0, slots := 0, locals := 0 }
theorem hdX5_in : gl_hd yX5_in RX5 3 := ⟨rfl, by decide +kernel, by decide +kernel, by decide +kernel⟩
abbrev rmX5_acts : Room := { frames := 0, cells := 0, slots := 0, locals := 0 }
theorem hdX5_acts : gl_hd yX5_acts RX5 0 := ⟨rfl, by decide +kernel, by decide +kernel, by decide +kernel⟩
abbrev rmX5_copies : Room := { frames := 0, cells := 0, slots := 0, locals := 0 }
theorem hdX5_copies : gl_hd yX5_copies RX5 2 := ⟨rfl, by decide +kernel, by decide +kernel, by decide +kernel⟩
abbrev rmX5_isCar : Room := { frames := 0, cells := 0, slots := 0, locals := 0 }
theorem hdX5_isCar : gl_hd yX5_isCar RX5 1 := ⟨rfl, by decide +kernel, by decide +kernel, by decide +kernel⟩
abbrev rmX5_isCaller : Room := { frames := 0, cells := 0, slots := 0, locals := 0 }
theorem hdX5_isCaller : gl_hd yX5_isCaller RX5 1 := ⟨rfl, by decide +kernel, by decide +kernel, by decide +kernel⟩
abbrev rmX5_isFloor : Room := { frames := 1, cells := 0, slots := 0, locals := 22 }
theorem hdX5_isFloor : gl_hd yX5_isFloor RX5 1 := ⟨rfl, by decide +kernel, by decide +kernel, by decide +kernel⟩
abbrev rmX5_ofCar : Room := { frames := 0, cells := 0, slots := 0, locals := 0 }
theorem hdX5_ofCar : gl_hd yX5_ofCar RX5 2 := ⟨rfl, by decide +kernel, by decide +kernel, by decide +kernel⟩
abbrev rmX5_putsCar : Room := { frames := 0, cells := 0, slots := 0, locals := 0 }
theorem hdX5_putsCar : gl_hd yX5_putsCar RX5 3 := ⟨rfl, by decide +kernel, by decide +kernel, by decide +kernel⟩
abbrev rmX5_ofCaller : Room := { frames := 0, cells := 0, slots := 0, locals := 0 }
theorem hdX5_ofCaller : gl_hd yX5_ofCaller RX5 2 := ⟨rfl, by decide +kernel, by decide +kernel, by decide +kernel⟩
abbrev rmX5_puts : Room := { frames := 0, cells := 0, slots := 0, locals := 0 }
theorem hdX5_puts : gl_hd yX5_puts RX5 3 := ⟨rfl, by decide +kernel, by decide +kernel, by decide +kernel⟩
abbrev rmX5_hour : Room := { frames := 0, cells := 0, slots := 0, locals := 0 }
theorem hdX5_hour : gl_hd yX5_hour RX5 0 := ⟨rfl, by decide +kernel, by decide +kernel, by decide +kernel⟩
abbrev rmX5_isAwake : Room := { frames := 1, cells := 0, slots := 0, locals := 20 }
theorem hdX5_isAwake : gl_hd yX5_isAwake RX5 1 := ⟨rfl, by decide +kernel, by decide +kernel, by decide +kernel⟩
abbrev rmX5_many : Room := { frames := 1, cells := 0, slots := 0, locals := 22 }
theorem hdX5_many : gl_hd yX5_many RX5 2 := ⟨rfl, by decide +kernel, by decide +kernel, by decide +kernel⟩
abbrev rmX5_inAll : Room := { frames := 1, cells := 0, slots := 0, locals := 22 }
theorem hdX5_inAll : gl_hd yX5_inAll RX5 1 := ⟨rfl, by decide +kernel, by decide +kernel, by decide +kernel⟩
abbrev rmX5_stops : Room := { frames := 1, cells := 0, slots := 0, locals := 22 }
theorem hdX5_stops : gl_hd yX5_stops RX5 1 := ⟨rfl, by decide +kernel, by decide +kernel, by decide +kernel⟩
abbrev rmX5_ones : Room := { frames := 0, cells := 0, slots := 0, locals := 0 }
theorem hdX5_ones : gl_hd yX5_ones RX5 1 := ⟨rfl, by decide +kernel, by decide +kernel, by decide +kernel⟩
abbrev rmX5_far : Room := { frames := 0, cells := 0, slots := 0, locals := 0 }
theorem hdX5_far : gl_hd yX5_far RX5 2 := ⟨rfl, by decide +kernel, by decide +kernel, by decide +kernel⟩
abbrev rmX5_canBeGiven : Room := { frames := 2, cells := 0, slots := 0, locals := 41 }
theorem hdX5_canBeGiven : gl_hd yX5_canBeGiven RX5 3 := ⟨rfl, by decide +kernel, by decide +kernel, by decide +kernel⟩
abbrev rmX5_costOf : Room := { frames := 2, cells := 0, slots := 0, locals := 46 }
theorem hdX5_costOf : gl_hd yX5_costOf RX5 3 := ⟨rfl, by decide +kernel, by decide +kernel, by decide +kernel⟩
abbrev rmX5_best : Room := { frames := 3, cells := 0, slots := 0, locals := 70 }
theorem hdX5_best : gl_hd yX5_best RX5 2 := ⟨rfl, by decide +kernel, by decide +kernel, by decide +kernel⟩
abbrev rmX5_gives : Room := { frames := 4, cells := 0, slots := 0, locals := 97 }
theorem hdX5_gives : gl_hd yX5_gives RX5 1 := ⟨rfl, by decide +kernel, by decide +kernel, by decide +kernel⟩
abbrev rmX5_aim : Room := { frames := 1, cells := 0, slots := 0, locals := 22 }
theorem hdX5_aim : gl_hd yX5_aim RX5 1 := ⟨rfl, by decide +kernel, by decide +kernel, by decide +kernel⟩
abbrev rmX5_isOut : Room := { frames := 1, cells := 0, slots := 0, locals := 22 }
theorem hdX5_isOut : gl_hd yX5_isOut RX5 2 := ⟨rfl, by decide +kernel, by decide +kernel, by decide +kernel⟩
abbrev rmX5_isTaken : Room := { frames := 1, cells := 0, slots := 0, locals := 22 }
theorem hdX5_isTaken : gl_hd yX5_isTaken RX5 2 := ⟨rfl, by decide +kernel, by decide +kernel, by decide +kernel⟩
abbrev rmX5_isStop : Room := { frames := 2, cells := 0, slots := 0, locals := 46 }
theorem hdX5_isStop : gl_hd yX5_isStop RX5 1 := ⟨rfl, by decide +kernel, by decide +kernel, by decide +kernel⟩
abbrev rmX5_stopsNow : Room := { frames := 2, cells := 0, slots := 0, locals := 46 }
theorem hdX5_stopsNow : gl_hd yX5_stopsNow RX5 1 := ⟨rfl, by decide +kernel, by decide +kernel, by decide +kernel⟩
abbrev rmX5_ticks : Room := { frames := 5, cells := 0, slots := 0, locals := 119 }
theorem hdX5_ticks : gl_hd yX5_ticks RX5 0 := ⟨rfl, by decide +kernel, by decide +kernel, by decide +kernel⟩
abbrev rmX5_fails : Room := { frames := 2, cells := 0, slots := 0, locals := 44 }
theorem hdX5_fails : gl_hd yX5_fails RX5 1 := ⟨rfl, by decide +kernel, by decide +kernel, by decide +kernel⟩
abbrev rmX5_addCar : Room := { frames := 1, cells := 0, slots := 0, locals := 23 }
theorem hdX5_addCar : gl_hd yX5_addCar RX5 3 := ⟨rfl, by decide +kernel, by decide +kernel, by decide +kernel⟩
abbrev rmX5_setAwake : Room := { frames := 1, cells := 0, slots := 0, locals := 22 }
theorem hdX5_setAwake : gl_hd yX5_setAwake RX5 2 := ⟨rfl, by decide +kernel, by decide +kernel, by decide +kernel⟩
abbrev rmX5_hold : Room := { frames := 2, cells := 0, slots := 0, locals := 46 }
theorem hdX5_hold : gl_hd yX5_hold RX5 2 := ⟨rfl, by decide +kernel, by decide +kernel, by decide +kernel⟩
abbrev rmX5_fail : Room := { frames := 3, cells := 0, slots := 0, locals := 67 }
theorem hdX5_fail : gl_hd yX5_fail RX5 1 := ⟨rfl, by decide +kernel, by decide +kernel, by decide +kernel⟩
abbrev rmX5_repair : Room := { frames := 1, cells := 0, slots := 0, locals := 23 }
theorem hdX5_repair : gl_hd yX5_repair RX5 1 := ⟨rfl, by decide +kernel, by decide +kernel, by decide +kernel⟩
abbrev rmX5_isWay : Room := { frames := 2, cells := 0, slots := 0, locals := 42 }
theorem hdX5_isWay : gl_hd yX5_isWay RX5 2 := ⟨rfl, by decide +kernel, by decide +kernel, by decide +kernel⟩
abbrev rmX5_call : Room := { frames := 5, cells := 0, slots := 0, locals := 119 }
theorem hdX5_call : gl_hd yX5_call RX5 2 := ⟨rfl, by decide +kernel, by decide +kernel, by decide +kernel⟩
abbrev rmX5_pass : Room := { frames := 6, cells := 0, slots := 0, locals := 141 }
theorem hdX5_pass : gl_hd yX5_pass RX5 1 := ⟨rfl, by decide +kernel, by decide +kernel, by decide +kernel⟩
abbrev rmX5_undo : Room := { frames := 0, cells := 0, slots := 0, locals := 0 }
theorem hdX5_undo : gl_hd yX5_undo RX5 0 := ⟨rfl, by decide +kernel, by decide +kernel, by decide +kernel⟩
abbrev rmX5_isOpen : Room := { frames := 1, cells := 0, slots := 0, locals := 22 }
theorem hdX5_isOpen : gl_hd yX5_isOpen RX5 1 := ⟨rfl, by decide +kernel, by decide +kernel, by decide +kernel⟩
abbrev rmX5_isFirst : Room := { frames := 2, cells := 0, slots := 0, locals := 44 }
theorem hdX5_isFirst : gl_hd yX5_isFirst RX5 1 := ⟨rfl, by decide +kernel, by decide +kernel, by decide +kernel⟩
abbrev rmX5_areOne : Room := { frames := 1, cells := 0, slots := 0, locals := 22 }
theorem hdX5_areOne : gl_hd yX5_areOne RX5 2 := ⟨rfl, by decide +kernel, by decide +kernel, by decide +kernel⟩
abbrev rmX5_groups : Room := { frames := 3, cells := 0, slots := 0, locals := 67 }
theorem hdX5_groups : gl_hd yX5_groups RX5 0 := ⟨rfl, by decide +kernel, by decide +kernel, by decide +kernel⟩
abbrev rmX5_sumOfCars : Room := { frames := 1, cells := 0, slots := 0, locals := 22 }
theorem hdX5_sumOfCars : gl_hd yX5_sumOfCars RX5 2 := ⟨rfl, by decide +kernel, by decide +kernel, by decide +kernel⟩
abbrev rmX5_count : Room := { frames := 4, cells := 0, slots := 0, locals := 89 }
theorem hdX5_count : gl_hd yX5_count RX5 1 := ⟨rfl, by decide +kernel, by decide +kernel, by decide +kernel⟩
abbrev rmX5_car : Room := { frames := 2, cells := 0, slots := 0, locals := 49 }
theorem hdX5_car : gl_hd yX5_car RX5 2 := ⟨rfl, by decide +kernel, by decide +kernel, by decide +kernel⟩
abbrev rmX5_caller : Room := { frames := 1, cells := 0, slots := 0, locals := 22 }
theorem hdX5_caller : gl_hd yX5_caller RX5 2 := ⟨rfl, by decide +kernel, by decide +kernel, by decide +kernel⟩
abbrev rmX5_group : Room := { frames := 3, cells := 0, slots := 0, locals := 67 }
theorem hdX5_group : gl_hd yX5_group RX5 2 := ⟨rfl, by decide +kernel, by decide +kernel, by decide +kernel⟩
abbrev rmX5_cost : Room := { frames := 3, cells := 0, slots := 0, locals := 70 }
theorem hdX5_cost : gl_hd yX5_cost RX5 3 := ⟨rfl, by decide +kernel, by decide +kernel, by decide +kernel⟩
abbrev rmX5_would : Room := { frames := 4, cells := 0, slots := 0, locals := 97 }
theorem hdX5_would : gl_hd yX5_would RX5 2 := ⟨rfl, by decide +kernel, by decide +kernel, by decide +kernel⟩
abbrev rmX5_thereIn : Room := { frames := 6, cells := 0, slots := 0, locals := 141 }
theorem hdX5_thereIn : gl_hd yX5_thereIn RX5 1 := ⟨rfl, by decide +kernel, by decide +kernel, by decide +kernel⟩
abbrev rmX5_waited : Room := { frames := 1, cells := 0, slots := 0, locals := 22 }
theorem hdX5_waited : gl_hd yX5_waited RX5 1 := ⟨rfl, by decide +kernel, by decide +kernel, by decide +kernel⟩
abbrev rmX5_waits : Room := { frames := 2, cells := 0, slots := 0, locals := 43 }
theorem hdX5_waits : gl_hd yX5_waits RX5 1 := ⟨rfl, by decide +kernel, by decide +kernel, by decide +kernel⟩
abbrev rmX5_allThere : Room := { frames := 6, cells := 0, slots := 0, locals := 141 }
theorem hdX5_allThere : gl_hd yX5_allThere RX5 0 := ⟨rfl, by decide +kernel, by decide +kernel, by decide +kernel⟩
abbrev rmX5_worstCar : Room := { frames := 7, cells := 0, slots := 0, locals := 162 }
theorem hdX5_worstCar : gl_hd yX5_worstCar RX5 1 := ⟨rfl, by decide +kernel, by decide +kernel, by decide +kernel⟩
abbrev rmX0_copyFrom : Room := { frames := 1, cells := 0, slots := 0, locals := 30 }
theorem hdX0_copyFrom : gl_hd yX0_copyFrom RX0 1 := ⟨rfl, by decide +kernel, by decide +kernel, by decide +kernel⟩
abbrev rmX0_has : Room := { frames := 0, cells := 0, slots := 0, locals := 0 }
theorem hdX0_has : gl_hd yX0_has RX0 1 := ⟨rfl, by decide +kernel, by decide +kernel, by decide +kernel⟩
abbrev rmX0_add : Room := { frames := 0, cells := 0, slots := 0, locals := 0 }
theorem hdX0_add : gl_hd yX0_add RX0 3 := ⟨rfl, by decide +kernel, by decide +kernel, by decide +kernel⟩
abbrev rmX0_give : Room := { frames := 1, cells := 0, slots := 0, locals := 21 }
theorem hdX0_give : gl_hd yX0_give RX0 2 := ⟨rfl, by decide +kernel, by decide +kernel, by decide +kernel⟩
abbrev rmX0_rides : Room := { frames := 0, cells := 0, slots := 0, locals := 0 }
theorem hdX0_rides : gl_hd yX0_rides RX0 2 := ⟨rfl, by decide +kernel, by decide +kernel, by decide +kernel⟩
abbrev rmX0_waitsFor : Room := { frames := 0, cells := 0, slots := 0, locals := 0 }
theorem hdX0_waitsFor : gl_hd yX0_waitsFor RX0 2 := ⟨rfl, by decide +kernel, by decide +kernel, by decide +kernel⟩
abbrev rmX0_numberIn : Room := { frames := 0, cells := 0, slots := 0, locals := 0 }
theorem hdX0_numberIn : gl_hd yX0_numberIn RX0 1 := ⟨rfl, by decide +kernel, by decide +kernel, by decide +kernel⟩
abbrev rmX0_numberOf : Room := { frames := 0, cells := 0, slots := 0, locals := 0 }
theorem hdX0_numberOf : gl_hd yX0_numberOf RX0 2 := ⟨rfl, by decide +kernel, by decide +kernel, by decide +kernel⟩
abbrev rmX0_numberWith : Room := { frames := 1, cells := 0, slots := 0, locals := 24 }
theorem hdX0_numberWith : gl_hd yX0_numberWith RX0 1 := ⟨rfl, by decide +kernel, by decide +kernel, by decide +kernel⟩
abbrev rmX0_stopsOf : Room := { frames := 1, cells := 0, slots := 0, locals := 22 }
theorem hdX0_stopsOf : gl_hd yX0_stopsOf RX0 1 := ⟨rfl, by decide +kernel, by decide +kernel, by decide +kernel⟩
abbrev rmX0_aimOf : Room := { frames := 2, cells := 0, slots := 0, locals := 45 }
theorem hdX0_aimOf : gl_hd yX0_aimOf RX0 2 := ⟨rfl, by decide +kernel, by decide +kernel, by decide +kernel⟩
abbrev rmX0_isNearer : Room := { frames := 1, cells := 0, slots := 0, locals := 21 }
theorem hdX0_isNearer : gl_hd yX0_isNearer RX0 3 := ⟨rfl, by decide +kernel, by decide +kernel, by decide +kernel⟩
abbrev rmX0_letOut : Room := { frames := 1, cells := 0, slots := 0, locals := 22 }
theorem hdX0_letOut : gl_hd yX0_letOut RX0 3 := ⟨rfl, by decide +kernel, by decide +kernel, by decide +kernel⟩
abbrev rmX0_takeIn : Room := { frames := 1, cells := 0, slots := 0, locals := 24 }
theorem hdX0_takeIn : gl_hd yX0_takeIn RX0 4 := ⟨rfl, by decide +kernel, by decide +kernel, by decide +kernel⟩
abbrev rmX0_loseCar : Room := { frames := 1, cells := 0, slots := 0, locals := 22 }
theorem hdX0_loseCar : gl_hd yX0_loseCar RX0 3 := ⟨rfl, by decide +kernel, by decide +kernel, by decide +kernel⟩
abbrev rmX0_waitOf : Room := { frames := 0, cells := 0, slots := 0, locals := 0 }
theorem hdX0_waitOf : gl_hd yX0_waitOf RX0 2 := ⟨rfl, by decide +kernel, by decide +kernel, by decide +kernel⟩
abbrev rmX0_isInGroup : Room := { frames := 0, cells := 0, slots := 0, locals := 0 }
theorem hdX0_isInGroup : gl_hd yX0_isInGroup RX0 1 := ⟨rfl, by decide +kernel, by decide +kernel, by decide +kernel⟩
abbrev rmX0_sameGroup : Room := { frames := 1, cells := 0, slots := 0, locals := 21 }
theorem hdX0_sameGroup : gl_hd yX0_sameGroup RX0 2 := ⟨rfl, by decide +kernel, by decide +kernel, by decide +kernel⟩
abbrev rmX0_isFirstOfGroup : Room := { frames := 2, cells := 0, slots := 0, locals := 43 }
theorem hdX0_isFirstOfGroup : gl_hd yX0_isFirstOfGroup RX0 1 := ⟨rfl, by decide +kernel, by decide +kernel, by decide +kernel⟩
abbrev rmX0_numberOfGroups : Room := { frames := 3, cells := 0, slots := 0, locals := 65 }
theorem hdX0_numberOfGroups : gl_hd yX0_numberOfGroups RX0 0 := ⟨rfl, by decide +kernel, by decide +kernel, by decide +kernel⟩
abbrev rmX0_firstOfGroup : Room := { frames := 3, cells := 0, slots := 0, locals := 65 }
theorem hdX0_firstOfGroup : gl_hd yX0_firstOfGroup RX0 1 := ⟨rfl, by decide +kernel, by decide +kernel, by decide +kernel⟩
abbrev rmX0_sizeOfGroup : Room := { frames := 2, cells := 0, slots := 0, locals := 43 }
theorem hdX0_sizeOfGroup : gl_hd yX0_sizeOfGroup RX0 1 := ⟨rfl, by decide +kernel, by decide +kernel, by decide +kernel⟩
abbrev rmX1_copyFrom : Room := { frames := 1, cells := 0, slots := 0, locals := 30 }
theorem hdX1_copyFrom : gl_hd yX1_copyFrom RX1 1 := ⟨rfl, by decide +kernel, by decide +kernel, by decide +kernel⟩
abbrev rmX1_has : Room := { frames := 0, cells := 0, slots := 0, locals := 0 }
theorem hdX1_has : gl_hd yX1_has RX1 1 := ⟨rfl, by decide +kernel, by decide +kernel, by decide +kernel⟩
abbrev rmX1_add : Room := { frames := 0, cells := 0, slots := 0, locals := 0 }
theorem hdX1_add : gl_hd yX1_add RX1 3 := ⟨rfl, by decide +kernel, by decide +kernel, by decide +kernel⟩
abbrev rmX1_serves : Room := { frames := 0, cells := 0, slots := 0, locals := 0 }
theorem hdX1_serves : gl_hd yX1_serves RX1 2 := ⟨rfl, by decide +kernel, by decide +kernel, by decide +kernel⟩
abbrev rmX1_travelTowards : Room := { frames := 0, cells := 0, slots := 0, locals := 0 }
theorem hdX1_travelTowards : gl_hd yX1_travelTowards RX1 2 := ⟨rfl, by decide +kernel, by decide +kernel, by decide +kernel⟩
abbrev rmX1_numberIn : Room := { frames := 0, cells := 0, slots := 0, locals := 0 }
theorem hdX1_numberIn : gl_hd yX1_numberIn RX1 1 := ⟨rfl, by decide +kernel, by decide +kernel, by decide +kernel⟩
abbrev rmX1_travelledByAll : Room := { frames := 0, cells := 0, slots := 0, locals := 0 }
theorem hdX1_travelledByAll : gl_hd yX1_travelledByAll RX1 0 := ⟨rfl, by decide +kernel, by decide +kernel, by decide +kernel⟩
abbrev rmX2_keep : Room := { frames := 3, cells := 0, slots := 0, locals := 72 }
theorem hdX2_keep : gl_hd yX2_keep RX2 1 := ⟨rfl, by decide +kernel, by decide +kernel, by decide +kernel⟩
abbrev rmX2_restore : Room := { frames := 3, cells := 0, slots := 0, locals := 72 }
theorem hdX2_restore : gl_hd yX2_restore RX2 1 := ⟨rfl, by decide +kernel, by decide +kernel, by decide +kernel⟩
abbrev rmX3_copyFrom : Room := { frames := 2, cells := 0, slots := 0, locals := 51 }
theorem hdX3_copyFrom : gl_hd yX3_copyFrom RX3 1 := ⟨rfl, by decide +kernel, by decide +kernel, by decide +kernel⟩
abbrev rmX3_hour : Room := { frames := 1, cells := 0, slots := 0, locals := 22 }
theorem hdX3_hour : gl_hd yX3_hour RX3 0 := ⟨rfl, by decide +kernel, by decide +kernel, by decide +kernel⟩
abbrev rmX3_isAwake : Room := { frames := 2, cells := 0, slots := 0, locals := 42 }
theorem hdX3_isAwake : gl_hd yX3_isAwake RX3 1 := ⟨rfl, by decide +kernel, by decide +kernel, by decide +kernel⟩
abbrev rmX3_canBeGiven : Room := { frames := 3, cells := 0, slots := 0, locals := 63 }
theorem hdX3_canBeGiven : gl_hd yX3_canBeGiven RX3 3 := ⟨rfl, by decide +kernel, by decide +kernel, by decide +kernel⟩
abbrev rmX3_costOf : Room := { frames := 2, cells := 0, slots := 0, locals := 45 }
theorem hdX3_costOf : gl_hd yX3_costOf RX3 3 := ⟨rfl, by decide +kernel, by decide +kernel, by decide +kernel⟩
abbrev rmX3_bestCar : Room := { frames := 4, cells := 0, slots := 0, locals := 86 }
theorem hdX3_bestCar : gl_hd yX3_bestCar RX3 2 := ⟨rfl, by decide +kernel, by decide +kernel, by decide +kernel⟩
abbrev rmX3_oneTick : Room := { frames := 5, cells := 0, slots := 0, locals := 112 }
theorem hdX3_oneTick : gl_hd yX3_oneTick RX3 0 := ⟨rfl, by decide +kernel, by decide +kernel, by decide +kernel⟩
abbrev rmX3_stopOrTravel : Room := { frames := 3, cells := 0, slots := 0, locals := 70 }
theorem hdX3_stopOrTravel : gl_hd yX3_stopOrTravel RX3 1 := ⟨rfl, by decide +kernel, by decide +kernel, by decide +kernel⟩
abbrev rmX3_breakCar : Room := { frames := 2, cells := 0, slots := 0, locals := 47 }
theorem hdX3_breakCar : gl_hd yX3_breakCar RX3 1 := ⟨rfl, by decide +kernel, by decide +kernel, by decide +kernel⟩
abbrev rmJ6_bitCount_0f7a4 : Room := { frames := 0, cells := 0, slots := 0, locals := 0 }
theorem hdJ6_bitCount_0f7a4 : gl_hd yJ6_bitCount_0f7a4 RJ6 1 := ⟨rfl, by decide +kernel, by decide +kernel, by decide +kernel⟩
abbrev rmJ9_floorMod_7cf53 : Room := { frames := 0, cells := 0, slots := 0, locals := 0 }
theorem hdJ9_floorMod_7cf53 : gl_hd yJ9_floorMod_7cf53 RJ9 2 := ⟨rfl, by decide +kernel, by decide +kernel, by decide +kernel⟩
end
section
/-! ===== what the numbers say: functions of the memory, the same for the class and for the model ===== -/
theorem gl_bz {P : Prop} [Decidable P] : ((if P then nI 1 else nI 0) = (0 : Int32)) ↔ ¬ P := by
  by_cases h : P
  · simp [h]; decide
  · simp [h]; decide
theorem gl_bn {P : Prop} [Decidable P] : (¬ (if P then nI 1 else nI 0) = (0 : Int32)) ↔ P := by
  rw [gl_bz]; exact Classical.not_not
theorem gl_nb {P : Prop} [Decidable P] : narrow .boolean (.int (if P then nI 1 else nI 0)) = .int (if P then nI 1 else nI 0) := by split <;> rfl
abbrev sp_has (x n : Int32) : Prop := ¬ x < 0 ∧ ¬ n ≤ x
abbrev sp_rd (M : Nat → Int32) (k : Nat) (c : Int32) : Prop := M (iK k 2) = nI 2 ∧ M (iK k 3) = c
abbrev sp_wt (M : Nat → Int32) (k : Nat) (c : Int32) : Prop := M (iK k 2) = nI 1 ∧ M (iK k 3) = c
/-- callers in a phase, callers of a car in a phase, among the first k -/
def sp_in (M : Nat → Int32) (is : Int32) : Nat → Int32
  | 0 => nI 0
  | k + 1 => if M (iK k 2) = is then sp_in M is k + nI 1 else sp_in M is k
def sp_of (M : Nat → Int32) (c is : Int32) : Nat → Int32
  | 0 => nI 0
  | k + 1 => if M (iK k 2) = is ∧ M (iK k 3) = c then sp_of M c is k + nI 1 else sp_of M c is k
abbrev sp_with (M : Nat → Int32) (c : Int32) (n : Nat) : Int32 := sp_of M c (nI 1) n + sp_of M c (nI 2) n
/-- the stops of a car, as bits -/
def sp_stops (M : Nat → Int32) (c : Int32) : Nat → Int32
  | 0 => nI 0
  | k + 1 => if sp_wt M k c then sp_stops M c k ||| (nI 1 <<< (M (iK k 0) &&& 31) ||| nI 1 <<< (M (iK k 1) &&& 31)) else if sp_rd M k c then sp_stops M c k ||| nI 1 <<< (M (iK k 1) &&& 31) else sp_stops M c k
def sp_ones (set : Int32) : Nat → Int32
  | 0 => nI 0
  | k + 1 => sp_ones set k + (set >>> (nI k &&& 31) &&& nI 1)
def sp_pop (set : Int32) : Int32 := sp_ones set 16
abbrev sp_hr (t : Nat) : Nat := t / 60 % 24
abbrev sp_awake (M : Nat → Int32) (t c : Nat) : Prop := ¬ M (4 + sp_hr t) ≤ nI c
abbrev sp_serves (M : Nat → Int32) (c : Nat) (f : Int32) : Prop := ¬ f < M (iC c 0) ∧ ¬ M (iC c 1) < f
def sp_far (a b : Int32) : Int32 := if a < b then b - a else a - b
abbrev sp_near (a b fl : Int32) : Prop := sp_far a fl < sp_far b fl ∨ (sp_far a fl = sp_far b fl ∧ a < b)
abbrev sp_can (M : Nat → Int32) (t c : Nat) (f g : Int32) : Prop := M (iC c 4) = 0 ∧ sp_awake M t c ∧ sp_serves M c f ∧ sp_serves M c g
def sp_bits (M : Nat → Int32) (c : Int32) (f g : Int32) (n : Nat) : Int32 := sp_stops M c n ||| nI 1 <<< (f &&& 31) ||| nI 1 <<< (g &&& 31)
def sp_cost (M : Nat → Int32) (c : Nat) (f g : Int32) (n : Nat) : Int32 := sp_far (M (iC c 3)) f + nI 2 * sp_pop (sp_bits M (nI c) f g n) + sp_with M (nI c) n
/-- the best among the first c cars, and its cost -/
def sp_best (M : Nat → Int32) (t : Nat) (f g : Int32) (n : Nat) : Nat → Int32 × Int32
  | 0 => (-9, nI 0)
  | c + 1 => if sp_can M t c f g ∧ ((sp_best M t f g n c).1 = -9 ∨ ¬ (sp_best M t f g n c).2 ≤ sp_cost M c f g n) then (nI c, sp_cost M c f g n) else sp_best M t f g n c
/-- the aim: the nearest goal of those who ride, the floor of the first who waits -/
def sp_aims (M : Nat → Int32) (c fl : Int32) : Nat → Int32 × Int32
  | 0 => (-9, -9)
  | k + 1 => if sp_rd M k c then (if (sp_aims M c fl k).1 = -9 ∨ sp_near (M (iK k 1)) (sp_aims M c fl k).1 fl then M (iK k 1) else (sp_aims M c fl k).1, (sp_aims M c fl k).2) else if (sp_aims M c fl k).2 = -9 ∧ sp_wt M k c then ((sp_aims M c fl k).1, M (iK k 0)) else sp_aims M c fl k
def sp_aim (M : Nat → Int32) (c fl : Int32) (n : Nat) : Int32 := if (sp_aims M c fl n).1 = -9 then (sp_aims M c fl n).2 else (sp_aims M c fl n).1
def sp_wait (M : Nat → Int32) (k : Nat) (t : Int32) : Int32 := (if M (iK k 2) = nI 2 ∨ M (iK k 2) = nI 3 then M (iK k 5) else t) - M (iK k 4)
abbrev sp_open (M : Nat → Int32) (k : Nat) : Prop := M (iK k 2) = 0 ∨ M (iK k 2) = nI 1
abbrev sp_same (M : Nat → Int32) (j k : Nat) : Prop := sp_open M j ∧ sp_open M k ∧ M (iK j 0) = M (iK k 0) ∧ M (iK j 1) = M (iK k 1)
/-- no earlier one of the first j is in k's group -/
def sp_none (M : Nat → Int32) (k : Nat) : Nat → Bool
  | 0 => true
  | j + 1 => sp_none M k j && !decide (sp_same M j k)
abbrev sp_first (M : Nat → Int32) (k : Nat) : Prop := sp_none M k k = true ∧ sp_open M k
def sp_groups (M : Nat → Int32) : Nat → Nat
  | 0 => 0
  | k + 1 => if sp_first M k then sp_groups M k + 1 else sp_groups M k
/-- the first caller of a group, among the first k -/
def sp_fog (M : Nat → Int32) (i : Int32) : Nat → Int32
  | 0 => -9
  | k + 1 => if sp_first M k ∧ nI (sp_groups M k) = i then nI k else sp_fog M i k
def sp_size (M : Nat → Int32) (f : Nat) : Nat → Int32
  | 0 => nI 0
  | k + 1 => if sp_same M f k then sp_size M f k + nI 1 else sp_size M f k
def sp_cst (M : Nat → Int32) (v : Int32) : Nat → Int32
  | 0 => nI 0
  | c + 1 => if M (iC c 4) = v then sp_cst M v c + nI 1 else sp_cst M v c
def sp_went (M : Nat → Int32) : Nat → Int32
  | 0 => nI 0
  | c + 1 => sp_went M c + M (iC c 5)
abbrev sp_fl (x : Int32) : Prop := ∃ f, f < 16 ∧ x = nI f
/-- a car, a caller as calls can make them -/
def sp_car (M : Nat → Int32) (c : Nat) : Prop := sp_fl (M (iC c 0)) ∧ sp_fl (M (iC c 1)) ∧ sp_fl (M (iC c 3)) ∧ ∃ p, 1 ≤ p ∧ p ≤ 8 ∧ M (iC c 2) = nI p
def sp_cal (M : Nat → Int32) (k : Nat) : Prop := sp_fl (M (iK k 0)) ∧ sp_fl (M (iK k 1)) ∧ (∃ i, i ≤ 3 ∧ M (iK k 2) = nI i) ∧ (M (iK k 2) ≠ nI 3 → M (iK k 6) = -9)
/-- a state that calls can reach: n callers, m cars, tick t -/
def sp_W (n m t : Nat) (M : Nat → Int32) : Prop := n ≤ 40 ∧ m ≤ 5 ∧ M 2 = nI n ∧ M 1 = nI m ∧ M 0 = nI t ∧ (∀ c, c < m → sp_car M c) ∧ (∀ k, k < n → sp_cal M k)
theorem nI_0' : nI 0 = 0 := by decide +kernel
/-- the shifts of floors stay among sixteen bits -/
def sp_b16 (x : Int32) : Prop := ∃ s, s < 65536 ∧ x = nI s
theorem nx_or (a b : Nat) : nI a ||| nI b = nI (a ||| b) := by
  apply Int32.toBitVec_inj.1
  show BitVec.ofNat 32 a ||| BitVec.ofNat 32 b = BitVec.ofNat 32 (a ||| b)
  exact BitVec.ofNat_or.symm
theorem nx_xor (a b : Nat) : nI a ^^^ nI b = nI (a ^^^ b) := by
  apply Int32.toBitVec_inj.1
  show BitVec.ofNat 32 a ^^^ BitVec.ofNat 32 b = BitVec.ofNat 32 (a ^^^ b)
  exact BitVec.ofNat_xor.symm
theorem sp_b16_or {x y : Int32} (hx : sp_b16 x) (hy : sp_b16 y) : sp_b16 (x ||| y) := by
  obtain ⟨a, ha, rfl⟩ := hx
  obtain ⟨b, hb, rfl⟩ := hy
  exact ⟨a ||| b, Nat.or_lt_two_pow (n := 16) ha hb, nx_or a b⟩
theorem sp_b16_sh0 : ∀ f, f < 16 → nI 1 <<< (nI f &&& 31) = nI (2 ^ f) := by decide +kernel
theorem sp_b16_sh {x : Int32} (h : sp_fl x) : sp_b16 (nI 1 <<< (x &&& 31)) := by
  obtain ⟨f, hf, rfl⟩ := h
  exact ⟨2 ^ f, Nat.pow_lt_pow_right (by decide) hf, sp_b16_sh0 f hf⟩
theorem sp_b16_0 : sp_b16 (nI 0) := ⟨0, by decide, rfl⟩
theorem sp_b16_stops {M : Nat → Int32} {c : Int32} (n : Nat) (h : ∀ k, k < n → sp_fl (M (iK k 0)) ∧ sp_fl (M (iK k 1))) : sp_b16 (sp_stops M c n) := by
  induction n with
  | zero => exact sp_b16_0
  | succ n ih =>
    have h1 := ih (fun k hk => h k (by omega))
    have h2 := h n (by omega)
    simp only [sp_stops]
    split
    · exact sp_b16_or h1 (sp_b16_or (sp_b16_sh h2.1) (sp_b16_sh h2.2))
    · split
      · exact sp_b16_or h1 (sp_b16_sh h2.2)
      · exact h1
theorem sp_far_abs0 : ∀ a, a < 16 → ∀ b, b < 16 → (if (0 : Int32) ≤ nI a - nI b then nI a - nI b else 0 - (nI a - nI b)) = sp_far (nI a) (nI b) := by decide +kernel
theorem sp_far_abs {x y : Int32} (hx : sp_fl x) (hy : sp_fl y) : (if (0 : Int32) ≤ x - y then x - y else 0 - (x - y)) = sp_far x y := by
  obtain ⟨a, ha, rfl⟩ := hx
  obtain ⟨b, hb, rfl⟩ := hy
  exact sp_far_abs0 a ha b hb
theorem sp_none_no {M : Nat → Int32} {k j : Nat} (h : sp_same M j k) : ∀ i, j < i → sp_none M k i = false := by
  intro i
  induction i with
  | zero => intro h; omega
  | succ i ih =>
    intro hj
    simp only [sp_none]
    by_cases hji : j < i
    · rw [ih hji]; rfl
    · have : j = i := by omega
      subst this
      rw [decide_eq_true h]
      simp
theorem sp_groups_le {M : Nat → Int32} (k : Nat) : sp_groups M k ≤ k := by
  induction k with
  | zero => exact Nat.le_refl _
  | succ k ih =>
    simp only [sp_groups]
    split <;> omega
theorem sp_groups_mono {M : Nat → Int32} (k d : Nat) : sp_groups M k ≤ sp_groups M (k + d) := by
  induction d with
  | zero => exact Nat.le_refl _
  | succ d ih =>
    rw [show k + (d + 1) = (k + d) + 1 by omega]
    simp only [sp_groups]
    split <;> omega
theorem sp_fog_at {M : Nat → Int32} {i : Int32} {k : Nat} (hf : sp_first M k) (hi : nI (sp_groups M k) = i) : ∀ n, k < n → n ≤ 40 → sp_fog M i n = nI k := by
  intro n
  induction n with
  | zero => intro h; omega
  | succ n ih =>
    intro hk hn
    simp only [sp_fog]
    by_cases hkn : k < n
    · rw [if_neg]
      · exact ih hkn (by omega)
      · rintro ⟨h1, h2⟩
        have a1 : sp_groups M (k + 1) = sp_groups M k + 1 := by simp only [sp_groups]; rw [if_pos hf]
        have a2 := sp_groups_mono (M := M) (k + 1) (n - (k + 1))
        rw [show k + 1 + (n - (k + 1)) = n by omega] at a2
        have a3 := sp_groups_le (M := M) n
        have a4 := sp_groups_le (M := M) k
        have a5 := (nI_eq (a := sp_groups M n) (b := sp_groups M k) (by omega) (by omega)).mp (h2.trans hi.symm)
        omega
    · have : k = n := by omega
      subst this
      rw [if_pos ⟨hf, hi⟩]
theorem sp_best_ok {M : Nat → Int32} {t : Nat} {f g : Int32} {n : Nat} : ∀ m, (sp_best M t f g n m).1 = -9 ∨ ∃ c, c < m ∧ (sp_best M t f g n m).1 = nI c := by
  intro m
  induction m with
  | zero => exact Or.inl rfl
  | succ m ih =>
    simp only [sp_best]
    split
    · exact Or.inr ⟨m, by omega, rfl⟩
    · rcases ih with h | ⟨c, h1, h2⟩
      · exact Or.inl h
      · exact Or.inr ⟨c, by omega, h2⟩
theorem sp_aims_ok {M : Nat → Int32} {c fl : Int32} {n : Nat} (hg : ∀ k, k < n → sp_fl (M (iK k 1))) : ∀ k, k ≤ n → (sp_aims M c fl k).1 = -9 ∨ sp_fl (sp_aims M c fl k).1 := by
  intro k
  induction k with
  | zero => intro _; exact Or.inl rfl
  | succ k ih =>
    intro hk
    have h := ih (by omega)
    have h2 := hg k (by omega)
    simp only [sp_aims]
    split
    · split
      · exact Or.inr h2
      · exact h
    · split
      · exact h
      · exact h
/-! the JDK's count of bits, for sixteen bits -/
abbrev sp_ush (x : Int32) (k : Nat) : Int32 := (x.toUInt32 >>> ((nI k).toUInt32 &&& Int32.toUInt32 31)).toInt32
def sp_c1 (x : Int32) : Int32 := x - (sp_ush x 1 &&& 1431655765)
def sp_c2 (x : Int32) : Int32 := (x &&& 858993459) + (sp_ush x 2 &&& 858993459)
def sp_c3 (x : Int32) : Int32 := (x + sp_ush x 4) &&& 252645135
def sp_c4 (x : Int32) : Int32 := x + sp_ush x 8
def sp_c5 (x : Int32) : Int32 := x + sp_ush x 16
def sp_bc (x : Int32) : Int32 := sp_c5 (sp_c4 (sp_c3 (sp_c2 (sp_c1 x)))) &&& nI 63
theorem sp_bc0 : ∀ a, a < 2 → ∀ b, b < 256 → sp_bc (nI (256 * a + b)) = sp_pop (nI (256 * a + b)) := by decide +kernel
end
section
/-! ===== the JDK's count of bits is the count of bits, for sixteen bits ===== -/
theorem nx_and (a b : Nat) : nI a &&& nI b = nI (a &&& b) := by
  apply Int32.toBitVec_inj.1
  show BitVec.ofNat 32 a &&& BitVec.ofNat 32 b = BitVec.ofNat 32 (a &&& b)
  exact BitVec.ofNat_and.symm
def bn_1 (s : Nat) : Nat := s - (s / 2 &&& 1431655765)
def bn_2 (s : Nat) : Nat := (s &&& 858993459) + (s / 4 &&& 858993459)
def bn_3 (s : Nat) : Nat := (s + s / 16) &&& 252645135
def bn_4 (s : Nat) : Nat := s + s / 256
def bn_5 (s : Nat) : Nat := s + s / 65536
def bn_o (s : Nat) : Nat → Nat
  | 0 => 0
  | k + 1 => bn_o s k + (s / 2 ^ k &&& 1)
theorem bn_k : ∀ k, k < 32 → ((nI k &&& 31).toBitVec.smod 32).toNat = k := by decide +kernel
theorem bn_u : ∀ k, k < 32 → (((nI k).toUInt32 &&& Int32.toUInt32 31).toBitVec % 32).toNat = k := by decide +kernel
theorem bn_ush {s k : Nat} (hs : s < 2 ^ 32) (hk : k < 32) : sp_ush (nI s) k = nI (s / 2 ^ k) := pk_ushrN hs (nI k) k (bn_u k hk)
theorem bn_ones {s : Nat} (hs : s < 65536) : ∀ k, k ≤ 16 → sp_ones (nI s) k = nI (bn_o s k) := by
  intro k
  induction k with
  | zero => intro _; rfl
  | succ k ih =>
    intro hk
    simp only [sp_ones, bn_o]
    rw [ih (by omega), pk_shrN (by omega) (nI k &&& 31) k (bn_k k (by omega)), nx_and, nI_add]
theorem bn_1_le (s : Nat) : bn_1 s ≤ s := Nat.sub_le _ _
theorem bn_2_le (s : Nat) : bn_2 s ≤ 858993459 + 858993459 := Nat.add_le_add (Nat.and_le_right) (Nat.and_le_right)
theorem bn_3_le (s : Nat) : bn_3 s ≤ 252645135 := Nat.and_le_right
theorem bn_c {s : Nat} (hs : s < 65536) : sp_bc (nI s) = nI (bn_5 (bn_4 (bn_3 (bn_2 (bn_1 s)))) &&& 63) := by
  have e1 : sp_c1 (nI s) = nI (bn_1 s) := by
    unfold sp_c1 bn_1
    rw [bn_ush (by omega) (by omega), show (1431655765 : Int32) = nI 1431655765 from rfl, nx_and, pk_sub (Nat.le_trans Nat.and_le_left (Nat.div_le_self _ _))]
  have l1 := bn_1_le s
  have e2 : sp_c2 (nI (bn_1 s)) = nI (bn_2 (bn_1 s)) := by
    unfold sp_c2 bn_2
    rw [bn_ush (by omega) (by omega), show (858993459 : Int32) = nI 858993459 from rfl, nx_and, nx_and, nI_add]
  have l2 := bn_2_le (bn_1 s)
  have e3 : sp_c3 (nI (bn_2 (bn_1 s))) = nI (bn_3 (bn_2 (bn_1 s))) := by
    unfold sp_c3 bn_3
    rw [bn_ush (by omega) (by omega), show (252645135 : Int32) = nI 252645135 from rfl, nI_add, nx_and]
  have l3 := bn_3_le (bn_2 (bn_1 s))
  have e4 : sp_c4 (nI (bn_3 (bn_2 (bn_1 s)))) = nI (bn_4 (bn_3 (bn_2 (bn_1 s)))) := by
    unfold sp_c4 bn_4
    rw [bn_ush (by omega) (by omega), nI_add]
  have l4 : bn_4 (bn_3 (bn_2 (bn_1 s))) ≤ 252645135 + 252645135 := Nat.add_le_add l3 (Nat.le_trans (Nat.div_le_self _ _) l3)
  have e5 : sp_c5 (nI (bn_4 (bn_3 (bn_2 (bn_1 s))))) = nI (bn_5 (bn_4 (bn_3 (bn_2 (bn_1 s))))) := by
    unfold sp_c5 bn_5
    rw [bn_ush (by omega) (by omega), nI_add]
  unfold sp_bc
  rw [e1, e2, e3, e4, e5, nx_and]
def bn_t (s : Nat) : Bool := Nat.beq (Nat.land (bn_5 (bn_4 (bn_3 (bn_2 (bn_1 s))))) 63) (bn_o s 16)
def bn_chk : Nat → Nat → Bool
  | _, 0 => true
  | s, f + 1 => bn_t s && bn_chk (s + 1) f
theorem bn_chk_ok : ∀ f s, bn_chk s f = true → ∀ i, s ≤ i → i < s + f → bn_t i = true := by
  intro f
  induction f with
  | zero => intro s _ i h1 h2; omega
  | succ f ih =>
    intro s h i h1 h2
    simp only [bn_chk, Bool.and_eq_true] at h
    by_cases e : i = s
    · rw [e]; exact h.1
    · exact ih (s + 1) h.2 i (by omega) (by omega)
set_option maxRecDepth 100000 in
theorem bn_x0 : bn_chk 0 4096 = true := by decide +kernel
set_option maxRecDepth 100000 in
theorem bn_x1 : bn_chk 4096 4096 = true := by decide +kernel
set_option maxRecDepth 100000 in
theorem bn_x2 : bn_chk 8192 4096 = true := by decide +kernel
set_option maxRecDepth 100000 in
theorem bn_x3 : bn_chk 12288 4096 = true := by decide +kernel
set_option maxRecDepth 100000 in
theorem bn_x4 : bn_chk 16384 4096 = true := by decide +kernel
set_option maxRecDepth 100000 in
theorem bn_x5 : bn_chk 20480 4096 = true := by decide +kernel
set_option maxRecDepth 100000 in
theorem bn_x6 : bn_chk 24576 4096 = true := by decide +kernel
set_option maxRecDepth 100000 in
theorem bn_x7 : bn_chk 28672 4096 = true := by decide +kernel
set_option maxRecDepth 100000 in
theorem bn_x8 : bn_chk 32768 4096 = true := by decide +kernel
set_option maxRecDepth 100000 in
theorem bn_x9 : bn_chk 36864 4096 = true := by decide +kernel
set_option maxRecDepth 100000 in
theorem bn_x10 : bn_chk 40960 4096 = true := by decide +kernel
set_option maxRecDepth 100000 in
theorem bn_x11 : bn_chk 45056 4096 = true := by decide +kernel
set_option maxRecDepth 100000 in
theorem bn_x12 : bn_chk 49152 4096 = true := by decide +kernel
set_option maxRecDepth 100000 in
theorem bn_x13 : bn_chk 53248 4096 = true := by decide +kernel
set_option maxRecDepth 100000 in
theorem bn_x14 : bn_chk 57344 4096 = true := by decide +kernel
set_option maxRecDepth 100000 in
theorem bn_x15 : bn_chk 61440 4096 = true := by decide +kernel
theorem bn_all {s : Nat} (h : s < 65536) : bn_5 (bn_4 (bn_3 (bn_2 (bn_1 s)))) &&& 63 = bn_o s 16 := by
  have h1 : bn_t s = true := by
    have hs : s / 4096 < 16 := by omega
    rcases (show s / 4096 = 0 ∨ s / 4096 = 1 ∨ s / 4096 = 2 ∨ s / 4096 = 3 ∨ s / 4096 = 4 ∨ s / 4096 = 5 ∨ s / 4096 = 6 ∨ s / 4096 = 7 ∨ s / 4096 = 8 ∨ s / 4096 = 9 ∨ s / 4096 = 10 ∨ s / 4096 = 11 ∨ s / 4096 = 12 ∨ s / 4096 = 13 ∨ s / 4096 = 14 ∨ s / 4096 = 15 by omega) with e | e | e | e | e | e | e | e | e | e | e | e | e | e | e | e
    · exact bn_chk_ok 4096 0 bn_x0 s (by omega) (by omega)
    · exact bn_chk_ok 4096 4096 bn_x1 s (by omega) (by omega)
    · exact bn_chk_ok 4096 8192 bn_x2 s (by omega) (by omega)
    · exact bn_chk_ok 4096 12288 bn_x3 s (by omega) (by omega)
    · exact bn_chk_ok 4096 16384 bn_x4 s (by omega) (by omega)
    · exact bn_chk_ok 4096 20480 bn_x5 s (by omega) (by omega)
    · exact bn_chk_ok 4096 24576 bn_x6 s (by omega) (by omega)
    · exact bn_chk_ok 4096 28672 bn_x7 s (by omega) (by omega)
    · exact bn_chk_ok 4096 32768 bn_x8 s (by omega) (by omega)
    · exact bn_chk_ok 4096 36864 bn_x9 s (by omega) (by omega)
    · exact bn_chk_ok 4096 40960 bn_x10 s (by omega) (by omega)
    · exact bn_chk_ok 4096 45056 bn_x11 s (by omega) (by omega)
    · exact bn_chk_ok 4096 49152 bn_x12 s (by omega) (by omega)
    · exact bn_chk_ok 4096 53248 bn_x13 s (by omega) (by omega)
    · exact bn_chk_ok 4096 57344 bn_x14 s (by omega) (by omega)
    · exact bn_chk_ok 4096 61440 bn_x15 s (by omega) (by omega)
  exact Nat.eq_of_beq_eq_true h1
theorem sp_bc_ok {x : Int32} (h : sp_b16 x) : sp_bc x = sp_pop x := by
  obtain ⟨s, hs, rfl⟩ := h
  rw [bn_c hs]
  unfold sp_pop
  rw [bn_ones hs 16 (by omega)]
  rw [bn_all hs]
end
section
theorem fX0_has_36 : gl_fl wsX0_has RX0 36 0 0 := ⟨RX0, TX0, 9, RX0, rfl, by decide, by decide +kernel, by decide +kernel, rfl⟩
theorem fX0_rides_18 : gl_fl wsX0_rides RX0 18 0 3 := ⟨RX0, TX0, 9, RX0, rfl, by decide, by decide +kernel, by decide +kernel, rfl⟩
theorem fX0_rides_21 : gl_fl wsX0_rides RX0 21 0 4 := ⟨RX0, TX0, 9, RX0, rfl, by decide, by decide +kernel, by decide +kernel, rfl⟩
theorem fX0_waitsFor_18 : gl_fl wsX0_waitsFor RX0 18 0 3 := ⟨RX0, TX0, 9, RX0, rfl, by decide, by decide +kernel, by decide +kernel, rfl⟩
theorem fX0_waitsFor_21 : gl_fl wsX0_waitsFor RX0 21 0 4 := ⟨RX0, TX0, 9, RX0, rfl, by decide, by decide +kernel, by decide +kernel, rfl⟩
theorem fX0_numberIn_18 : gl_fl wsX0_numberIn RX0 18 0 3 := ⟨RX0, TX0, 9, RX0, rfl, by decide, by decide +kernel, by decide +kernel, rfl⟩
theorem fX0_numberIn_36 : gl_fl wsX0_numberIn RX0 36 0 0 := ⟨RX0, TX0, 9, RX0, rfl, by decide, by decide +kernel, by decide +kernel, rfl⟩
theorem fX0_numberOf_18 : gl_fl wsX0_numberOf RX0 18 0 3 := ⟨RX0, TX0, 9, RX0, rfl, by decide, by decide +kernel, by decide +kernel, rfl⟩
theorem fX0_numberOf_21 : gl_fl wsX0_numberOf RX0 21 0 4 := ⟨RX0, TX0, 9, RX0, rfl, by decide, by decide +kernel, by decide +kernel, rfl⟩
theorem fX0_numberOf_36 : gl_fl wsX0_numberOf RX0 36 0 0 := ⟨RX0, TX0, 9, RX0, rfl, by decide, by decide +kernel, by decide +kernel, rfl⟩
theorem fX0_stopsOf_9 : gl_fl wsX0_stopsOf RX0 9 0 1 := ⟨RX0, TX0, 9, RX0, rfl, by decide, by decide +kernel, by decide +kernel, rfl⟩
theorem fX0_stopsOf_15 : gl_fl wsX0_stopsOf RX0 15 0 2 := ⟨RX0, TX0, 9, RX0, rfl, by decide, by decide +kernel, by decide +kernel, rfl⟩
theorem fX0_stopsOf_36 : gl_fl wsX0_stopsOf RX0 36 0 0 := ⟨RX0, TX0, 9, RX0, rfl, by decide, by decide +kernel, by decide +kernel, rfl⟩
theorem fX0_isInGroup_18 : gl_fl wsX0_isInGroup RX0 18 0 3 := ⟨RX0, TX0, 9, RX0, rfl, by decide, by decide +kernel, by decide +kernel, rfl⟩
theorem fX0_sameGroup_9 : gl_fl wsX0_sameGroup RX0 9 0 1 := ⟨RX0, TX0, 9, RX0, rfl, by decide, by decide +kernel, by decide +kernel, rfl⟩
theorem fX0_sameGroup_15 : gl_fl wsX0_sameGroup RX0 15 0 2 := ⟨RX0, TX0, 9, RX0, rfl, by decide, by decide +kernel, by decide +kernel, rfl⟩
theorem fX0_numberOfGroups_36 : gl_fl wsX0_numberOfGroups RX0 36 0 0 := ⟨RX0, TX0, 9, RX0, rfl, by decide, by decide +kernel, by decide +kernel, rfl⟩
theorem fX0_firstOfGroup_36 : gl_fl wsX0_firstOfGroup RX0 36 0 0 := ⟨RX0, TX0, 9, RX0, rfl, by decide, by decide +kernel, by decide +kernel, rfl⟩
theorem fX0_sizeOfGroup_36 : gl_fl wsX0_sizeOfGroup RX0 36 0 0 := ⟨RX0, TX0, 9, RX0, rfl, by decide, by decide +kernel, by decide +kernel, rfl⟩
theorem fX0_waitOf_18 : gl_fl wsX0_waitOf RX0 18 0 3 := ⟨RX0, TX0, 9, RX0, rfl, by decide, by decide +kernel, by decide +kernel, rfl⟩
theorem fX0_waitOf_24 : gl_fl wsX0_waitOf RX0 24 0 5 := ⟨RX0, TX0, 9, RX0, rfl, by decide, by decide +kernel, by decide +kernel, rfl⟩
theorem fX0_waitOf_27 : gl_fl wsX0_waitOf RX0 27 0 6 := ⟨RX0, TX0, 9, RX0, rfl, by decide, by decide +kernel, by decide +kernel, rfl⟩
theorem fX0_aimOf_9 : gl_fl wsX0_aimOf RX0 9 0 1 := ⟨RX0, TX0, 9, RX0, rfl, by decide, by decide +kernel, by decide +kernel, rfl⟩
theorem fX0_aimOf_15 : gl_fl wsX0_aimOf RX0 15 0 2 := ⟨RX0, TX0, 9, RX0, rfl, by decide, by decide +kernel, by decide +kernel, rfl⟩
theorem fX0_aimOf_36 : gl_fl wsX0_aimOf RX0 36 0 0 := ⟨RX0, TX0, 9, RX0, rfl, by decide, by decide +kernel, by decide +kernel, rfl⟩
theorem fX1_has_30 : gl_fl wsX1_has RX1 30 1 0 := ⟨RX1, TX1, 8, RX1, rfl, by decide, by decide +kernel, by decide +kernel, rfl⟩
theorem fX1_serves_9 : gl_fl wsX1_serves RX1 9 1 2 := ⟨RX1, TX1, 8, RX1, rfl, by decide, by decide +kernel, by decide +kernel, rfl⟩
theorem fX1_serves_15 : gl_fl wsX1_serves RX1 15 1 3 := ⟨RX1, TX1, 8, RX1, rfl, by decide, by decide +kernel, by decide +kernel, rfl⟩
theorem fX1_numberIn_24 : gl_fl wsX1_numberIn RX1 24 1 6 := ⟨RX1, TX1, 8, RX1, rfl, by decide, by decide +kernel, by decide +kernel, rfl⟩
theorem fX1_numberIn_30 : gl_fl wsX1_numberIn RX1 30 1 0 := ⟨RX1, TX1, 8, RX1, rfl, by decide, by decide +kernel, by decide +kernel, rfl⟩
theorem fX1_travelledByAll_27 : gl_fl wsX1_travelledByAll RX1 27 1 7 := ⟨RX1, TX1, 8, RX1, rfl, by decide, by decide +kernel, by decide +kernel, rfl⟩
theorem fX1_travelledByAll_30 : gl_fl wsX1_travelledByAll RX1 30 1 0 := ⟨RX1, TX1, 8, RX1, rfl, by decide, by decide +kernel, by decide +kernel, rfl⟩
theorem fX3_hour_29 : gl_fl wsX3_hour RX3 29 3 0 := ⟨RX3, TX3, 4, RX3, rfl, by decide, by decide +kernel, by decide +kernel, rfl⟩
theorem fX3_isAwake_9 : gl_fl wsX3_isAwake RX3 9 3 1 := ⟨RX3, TX3, 4, RX3, rfl, by decide, by decide +kernel, by decide +kernel, rfl⟩
theorem fX3_canBeGiven_18 : gl_fl wsX3_canBeGiven RX3 18 3 2 := ⟨RX3, TX3, 4, RX3, rfl, by decide, by decide +kernel, by decide +kernel, rfl⟩
theorem fX3_canBeGiven_56 : gl_fl wsX3_canBeGiven RX3 56 1 6 := ⟨RX1, TX1, 8, RX1, rfl, by decide, by decide +kernel, by decide +kernel, rfl⟩
theorem fX3_costOf_18 : gl_fl wsX3_costOf RX3 18 3 2 := ⟨RX3, TX3, 4, RX3, rfl, by decide, by decide +kernel, by decide +kernel, rfl⟩
theorem fX3_costOf_25 : gl_fl wsX3_costOf RX3 25 3 3 := ⟨RX3, TX3, 4, RX3, rfl, by decide, by decide +kernel, by decide +kernel, rfl⟩
theorem fX3_costOf_67 : gl_fl wsX3_costOf RX3 67 1 5 := ⟨RX1, TX1, 8, RX1, rfl, by decide, by decide +kernel, by decide +kernel, rfl⟩
theorem fX3_bestCar_18 : gl_fl wsX3_bestCar RX3 18 3 2 := ⟨RX3, TX3, 4, RX3, rfl, by decide, by decide +kernel, by decide +kernel, rfl⟩
theorem fX3_bestCar_85 : gl_fl wsX3_bestCar RX3 85 1 0 := ⟨RX1, TX1, 8, RX1, rfl, by decide, by decide +kernel, by decide +kernel, rfl⟩
set_option maxRecDepth 100000 in
set_option maxHeartbeats 4000000 in
theorem ctX0_has (F : gl_F) (M : Nat → Int32) (x : Int32) : gl_Ct F LH yX0_has wsX0_has rmX0_has [.ref (gl_r F 9), .int x] M (some (.int (if sp_has x (M 2) then nI 1 else nI 0))) (M) := by
  refine gl_met (cc := cX0_has) (maxL := 2) (ret := some .boolean) [some (.ref (gl_r F 9)), some (.int x)] (plainFor_of_name (by decide)) rfl ok_LH (by simp [Value.category]) (Nat.le_of_ble_eq_true rfl) rfl (fun V hV C => ?_)
  subst hV
  refine gl_iload_1 (pc := 0) C dX0_has_0 ?_
  refine gl_iflt (pc := 1) 16 C dX0_has_1 (by decide) (fun h1 => ?_) (fun h1 => ?_)
  · skip
    refine gl_iconst (pc := 16) (nI 0) C dX0_has_16 (by decide) ?_
    exact gl_zret (pc := 17) C dX0_has_17 (by rfl) (by simp [*]) (rfl)
  · skip
    refine gl_iload_1 (pc := 4) C dX0_has_4 ?_
    refine gl_aload_0 (pc := 5) C dX0_has_5 ?_
    refine gl_getI (pc := 6) C dX0_has_6 fX0_has_36 rfl rfl ?_
    refine gl_icmp_ge (pc := 9) 16 C dX0_has_9 (by decide) (fun h9 => ?_) (fun h9 => ?_)
    · skip
      refine gl_iconst (pc := 16) (nI 0) C dX0_has_16 (by decide) ?_
      exact gl_zret (pc := 17) C dX0_has_17 (by rfl) (by simp [*]) (rfl)
    · skip
      refine gl_iconst (pc := 12) (nI 1) C dX0_has_12 (by decide) ?_
      refine gl_goto (pc := 13) 17 C dX0_has_13 (by decide) ?_
      exact gl_zret (pc := 17) C dX0_has_17 (by rfl) (by simp [*]) (rfl)
set_option maxRecDepth 100000 in
set_option maxHeartbeats 4000000 in
theorem ctX0_rides (F : gl_F) (M : Nat → Int32) (k : Nat) (hk : k < 40) (c : Int32) : gl_Ct F LH yX0_rides wsX0_rides rmX0_rides [.ref (gl_r F 9), .int (nI k), .int c] M (some (.int (if sp_rd M k c then nI 1 else nI 0))) (M) := by
  refine gl_met (cc := cX0_rides) (maxL := 3) (ret := some .boolean) [some (.ref (gl_r F 9)), some (.int (nI k)), some (.int c)] (plainFor_of_name (by decide)) rfl ok_LH (by simp [Value.category]) (Nat.le_of_ble_eq_true rfl) rfl (fun V hV C => ?_)
  subst hV
  refine gl_aload_0 (pc := 0) C dX0_rides_0 ?_
  refine gl_getR (pc := 1) C dX0_rides_1 fX0_rides_18 rfl rfl ?_
  refine gl_iload_1 (pc := 4) C dX0_rides_4 ?_
  refine gl_iald (pc := 5) _ C dX0_rides_5 rfl rfl (by omega) ?_
  refine gl_iconst (pc := 6) (nI 2) C dX0_rides_6 (by decide) ?_
  refine gl_icmp_ne (pc := 7) 24 C dX0_rides_7 (by decide) (fun h7 => ?_) (fun h7 => ?_)
  · skip
    refine gl_iconst (pc := 24) (nI 0) C dX0_rides_24 (by decide) ?_
    exact gl_zret (pc := 25) C dX0_rides_25 (by rfl) (by simp [*]) (rfl)
  · skip
    refine gl_aload_0 (pc := 10) C dX0_rides_10 ?_
    refine gl_getR (pc := 11) C dX0_rides_11 fX0_rides_21 rfl rfl ?_
    refine gl_iload_1 (pc := 14) C dX0_rides_14 ?_
    refine gl_iald (pc := 15) _ C dX0_rides_15 rfl rfl (by omega) ?_
    refine gl_iload_2 (pc := 16) C dX0_rides_16 ?_
    refine gl_icmp_ne (pc := 17) 24 C dX0_rides_17 (by decide) (fun h17 => ?_) (fun h17 => ?_)
    · skip
      refine gl_iconst (pc := 24) (nI 0) C dX0_rides_24 (by decide) ?_
      exact gl_zret (pc := 25) C dX0_rides_25 (by rfl) (by simp [*]) (rfl)
    · skip
      refine gl_iconst (pc := 20) (nI 1) C dX0_rides_20 (by decide) ?_
      refine gl_goto (pc := 21) 25 C dX0_rides_21 (by decide) ?_
      exact gl_zret (pc := 25) C dX0_rides_25 (by rfl) (by simp [*]) (rfl)
set_option maxRecDepth 100000 in
set_option maxHeartbeats 4000000 in
theorem ctX0_waitsFor (F : gl_F) (M : Nat → Int32) (k : Nat) (hk : k < 40) (c : Int32) : gl_Ct F LH yX0_waitsFor wsX0_waitsFor rmX0_waitsFor [.ref (gl_r F 9), .int (nI k), .int c] M (some (.int (if sp_wt M k c then nI 1 else nI 0))) (M) := by
  refine gl_met (cc := cX0_waitsFor) (maxL := 3) (ret := some .boolean) [some (.ref (gl_r F 9)), some (.int (nI k)), some (.int c)] (plainFor_of_name (by decide)) rfl ok_LH (by simp [Value.category]) (Nat.le_of_ble_eq_true rfl) rfl (fun V hV C => ?_)
  subst hV
  refine gl_aload_0 (pc := 0) C dX0_waitsFor_0 ?_
  refine gl_getR (pc := 1) C dX0_waitsFor_1 fX0_waitsFor_18 rfl rfl ?_
  refine gl_iload_1 (pc := 4) C dX0_waitsFor_4 ?_
  refine gl_iald (pc := 5) _ C dX0_waitsFor_5 rfl rfl (by omega) ?_
  refine gl_iconst (pc := 6) (nI 1) C dX0_waitsFor_6 (by decide) ?_
  refine gl_icmp_ne (pc := 7) 24 C dX0_waitsFor_7 (by decide) (fun h7 => ?_) (fun h7 => ?_)
  · skip
    refine gl_iconst (pc := 24) (nI 0) C dX0_waitsFor_24 (by decide) ?_
    exact gl_zret (pc := 25) C dX0_waitsFor_25 (by rfl) (by simp [*]) (rfl)
  · skip
    refine gl_aload_0 (pc := 10) C dX0_waitsFor_10 ?_
    refine gl_getR (pc := 11) C dX0_waitsFor_11 fX0_waitsFor_21 rfl rfl ?_
    refine gl_iload_1 (pc := 14) C dX0_waitsFor_14 ?_
    refine gl_iald (pc := 15) _ C dX0_waitsFor_15 rfl rfl (by omega) ?_
    refine gl_iload_2 (pc := 16) C dX0_waitsFor_16 ?_
    refine gl_icmp_ne (pc := 17) 24 C dX0_waitsFor_17 (by decide) (fun h17 => ?_) (fun h17 => ?_)
    · skip
      refine gl_iconst (pc := 24) (nI 0) C dX0_waitsFor_24 (by decide) ?_
      exact gl_zret (pc := 25) C dX0_waitsFor_25 (by rfl) (by simp [*]) (rfl)
    · skip
      refine gl_iconst (pc := 20) (nI 1) C dX0_waitsFor_20 (by decide) ?_
      refine gl_goto (pc := 21) 25 C dX0_waitsFor_21 (by decide) ?_
      exact gl_zret (pc := 25) C dX0_waitsFor_25 (by rfl) (by simp [*]) (rfl)
set_option maxRecDepth 100000 in
set_option maxHeartbeats 4000000 in
theorem ctX0_numberIn (F : gl_F) {n : Nat} (hn40 : n ≤ 40) {M : Nat → Int32} (hn : M 2 = nI n) (is : Int32) : gl_Ct F LH yX0_numberIn wsX0_numberIn rmX0_numberIn [.ref (gl_r F 9), .int is] M (some (.int (sp_in M is n))) (M) := by
  refine gl_met (cc := cX0_numberIn) (maxL := 4) (ret := some .int) [some (.ref (gl_r F 9)), some (.int is), none, none] (plainFor_of_name (by decide)) rfl ok_LH (by simp [Value.category]) (Nat.le_of_ble_eq_true rfl) rfl (fun V hV C => ?_)
  subst hV
  refine gl_iconst (pc := 0) (nI 0) C dX0_numberIn_0 (by decide) ?_
  refine gl_istore_2 (pc := 1) C dX0_numberIn_1 ?_
  refine gl_iconst (pc := 2) (nI 0) C dX0_numberIn_2 (by decide) ?_
  refine gl_istore_3 (pc := 3) C dX0_numberIn_3 ?_
  refine gl_loop (pc := 4) (n := n) (fun k => [some (.ref (gl_r V.1 9)), some (.int is), some (.int (sp_in M is k)), some (.int (nI k))]) (fun k => M) (fun k => True) 0 (Nat.zero_le _) (trivial) (gl_le_c (rfl) (gl_le_c (rfl) (gl_le_c (rfl) (gl_le_c (rfl) (gl_le_n))))) (rfl) (fun hI => ?_) (fun k hk hI ih => ?_)
  · skip
    refine gl_iload_3 (pc := 4) C dX0_numberIn_4 ?_
    refine gl_aload_0 (pc := 5) C dX0_numberIn_5 ?_
    refine gl_getI (pc := 6) C dX0_numberIn_6 fX0_numberIn_36 rfl rfl ?_
    refine gl_top hn ?_
    refine gl_icmp_ge (pc := 9) 31 C dX0_numberIn_9 (by decide) (fun h9 => ?_) (fun h9 => absurd h9 (gl_xge))
    refine gl_iload_2 (pc := 31) C dX0_numberIn_31 ?_
    exact gl_iret (pc := 32) C dX0_numberIn_32 (rfl) (rfl)
  · skip
    refine gl_iload_3 (pc := 4) C dX0_numberIn_4 ?_
    refine gl_aload_0 (pc := 5) C dX0_numberIn_5 ?_
    refine gl_getI (pc := 6) C dX0_numberIn_6 fX0_numberIn_36 rfl rfl ?_
    refine gl_top hn ?_
    refine gl_icmp_ge (pc := 9) 31 C dX0_numberIn_9 (by decide) (fun h9 => absurd h9 (nI_ge hk (by omega))) (fun h9 => ?_)
    refine gl_aload_0 (pc := 12) C dX0_numberIn_12 ?_
    refine gl_getR (pc := 13) C dX0_numberIn_13 fX0_numberIn_18 rfl rfl ?_
    refine gl_iload_3 (pc := 16) C dX0_numberIn_16 ?_
    refine gl_iald (pc := 17) _ C dX0_numberIn_17 rfl rfl (by omega) ?_
    refine gl_iload_1 (pc := 18) C dX0_numberIn_18 ?_
    refine gl_icmp_ne (pc := 19) 25 C dX0_numberIn_19 (by decide) (fun h19 => ?_) (fun h19 => ?_)
    · skip
      first | with_reducible refine gl_iincN_3 (pc := 25) gl_i1 C dX0_numberIn_25 ?_ | refine gl_iinc_3 (pc := 25) C dX0_numberIn_25 (gl_inc1 _) ?_
      refine gl_goto (pc := 28) 4 C dX0_numberIn_28 (by decide) ?_
      exact gl_on (ih (trivial)) (gl_le_c (rfl) (gl_le_c (rfl) (gl_le_c (congrArg Value.int (by simp [sp_in, *])) (gl_le_c (rfl) (gl_le_n))))) (rfl)
    · skip
      first | with_reducible refine gl_iincN_2 (pc := 22) gl_i1 C dX0_numberIn_22 ?_ | refine gl_iinc_2 (pc := 22) C dX0_numberIn_22 (gl_inc1 _) ?_
      first | with_reducible refine gl_iincN_3 (pc := 25) gl_i1 C dX0_numberIn_25 ?_ | refine gl_iinc_3 (pc := 25) C dX0_numberIn_25 (gl_inc1 _) ?_
      refine gl_goto (pc := 28) 4 C dX0_numberIn_28 (by decide) ?_
      exact gl_on (ih (trivial)) (gl_le_c (rfl) (gl_le_c (rfl) (gl_le_c (congrArg Value.int (by simp [sp_in, *])) (gl_le_c (rfl) (gl_le_n))))) (rfl)
set_option maxRecDepth 100000 in
set_option maxHeartbeats 4000000 in
theorem ctX0_numberOf (F : gl_F) {n : Nat} (hn40 : n ≤ 40) {M : Nat → Int32} (hn : M 2 = nI n) (c is : Int32) : gl_Ct F LH yX0_numberOf wsX0_numberOf rmX0_numberOf [.ref (gl_r F 9), .int c, .int is] M (some (.int (sp_of M c is n))) (M) := by
  refine gl_met (cc := cX0_numberOf) (maxL := 5) (ret := some .int) [some (.ref (gl_r F 9)), some (.int c), some (.int is), none, none] (plainFor_of_name (by decide)) rfl ok_LH (by simp [Value.category]) (Nat.le_of_ble_eq_true rfl) rfl (fun V hV C => ?_)
  subst hV
  refine gl_iconst (pc := 0) (nI 0) C dX0_numberOf_0 (by decide) ?_
  refine gl_istore_3 (pc := 1) C dX0_numberOf_1 ?_
  refine gl_iconst (pc := 2) (nI 0) C dX0_numberOf_2 (by decide) ?_
  refine gl_istore_4 (pc := 3) C dX0_numberOf_3 ?_
  refine gl_loop (pc := 5) (n := n) (fun k => [some (.ref (gl_r V.1 9)), some (.int c), some (.int is), some (.int (sp_of M c is k)), some (.int (nI k))]) (fun k => M) (fun k => True) 0 (Nat.zero_le _) (trivial) (gl_le_c (rfl) (gl_le_c (rfl) (gl_le_c (rfl) (gl_le_c (rfl) (gl_le_c (rfl) (gl_le_n)))))) (rfl) (fun hI => ?_) (fun k hk hI ih => ?_)
  · skip
    refine gl_iload_4 (pc := 5) C dX0_numberOf_5 ?_
    refine gl_aload_0 (pc := 7) C dX0_numberOf_7 ?_
    refine gl_getI (pc := 8) C dX0_numberOf_8 fX0_numberOf_36 rfl rfl ?_
    refine gl_top hn ?_
    refine gl_icmp_ge (pc := 11) 45 C dX0_numberOf_11 (by decide) (fun h11 => ?_) (fun h11 => absurd h11 (gl_xge))
    refine gl_iload_3 (pc := 45) C dX0_numberOf_45 ?_
    exact gl_iret (pc := 46) C dX0_numberOf_46 (rfl) (rfl)
  · skip
    refine gl_iload_4 (pc := 5) C dX0_numberOf_5 ?_
    refine gl_aload_0 (pc := 7) C dX0_numberOf_7 ?_
    refine gl_getI (pc := 8) C dX0_numberOf_8 fX0_numberOf_36 rfl rfl ?_
    refine gl_top hn ?_
    refine gl_icmp_ge (pc := 11) 45 C dX0_numberOf_11 (by decide) (fun h11 => absurd h11 (nI_ge hk (by omega))) (fun h11 => ?_)
    refine gl_aload_0 (pc := 14) C dX0_numberOf_14 ?_
    refine gl_getR (pc := 15) C dX0_numberOf_15 fX0_numberOf_18 rfl rfl ?_
    refine gl_iload_4 (pc := 18) C dX0_numberOf_18 ?_
    refine gl_iald (pc := 20) _ C dX0_numberOf_20 rfl rfl (by omega) ?_
    refine gl_iload_2 (pc := 21) C dX0_numberOf_21 ?_
    refine gl_icmp_ne (pc := 22) 39 C dX0_numberOf_22 (by decide) (fun h22 => ?_) (fun h22 => ?_)
    · skip
      first | with_reducible refine gl_iincN_4 (pc := 39) gl_i1 C dX0_numberOf_39 ?_ | refine gl_iinc_4 (pc := 39) C dX0_numberOf_39 (gl_inc1 _) ?_
      refine gl_goto (pc := 42) 5 C dX0_numberOf_42 (by decide) ?_
      exact gl_on (ih (trivial)) (gl_le_c (rfl) (gl_le_c (rfl) (gl_le_c (rfl) (gl_le_c (congrArg Value.int (by simp [sp_of, *])) (gl_le_c (rfl) (gl_le_n)))))) (rfl)
    · skip
      refine gl_aload_0 (pc := 25) C dX0_numberOf_25 ?_
      refine gl_getR (pc := 26) C dX0_numberOf_26 fX0_numberOf_21 rfl rfl ?_
      refine gl_iload_4 (pc := 29) C dX0_numberOf_29 ?_
      refine gl_iald (pc := 31) _ C dX0_numberOf_31 rfl rfl (by omega) ?_
      refine gl_iload_1 (pc := 32) C dX0_numberOf_32 ?_
      refine gl_icmp_ne (pc := 33) 39 C dX0_numberOf_33 (by decide) (fun h33 => ?_) (fun h33 => ?_)
      · skip
        first | with_reducible refine gl_iincN_4 (pc := 39) gl_i1 C dX0_numberOf_39 ?_ | refine gl_iinc_4 (pc := 39) C dX0_numberOf_39 (gl_inc1 _) ?_
        refine gl_goto (pc := 42) 5 C dX0_numberOf_42 (by decide) ?_
        exact gl_on (ih (trivial)) (gl_le_c (rfl) (gl_le_c (rfl) (gl_le_c (rfl) (gl_le_c (congrArg Value.int (by simp [sp_of, *])) (gl_le_c (rfl) (gl_le_n)))))) (rfl)
      · skip
        first | with_reducible refine gl_iincN_3 (pc := 36) gl_i1 C dX0_numberOf_36 ?_ | refine gl_iinc_3 (pc := 36) C dX0_numberOf_36 (gl_inc1 _) ?_
        first | with_reducible refine gl_iincN_4 (pc := 39) gl_i1 C dX0_numberOf_39 ?_ | refine gl_iinc_4 (pc := 39) C dX0_numberOf_39 (gl_inc1 _) ?_
        refine gl_goto (pc := 42) 5 C dX0_numberOf_42 (by decide) ?_
        exact gl_on (ih (trivial)) (gl_le_c (rfl) (gl_le_c (rfl) (gl_le_c (rfl) (gl_le_c (congrArg Value.int (by simp [sp_of, *])) (gl_le_c (rfl) (gl_le_n)))))) (rfl)
set_option maxRecDepth 100000 in
set_option maxHeartbeats 4000000 in
theorem ctX0_numberWith (F : gl_F) {n : Nat} (hn40 : n ≤ 40) {M : Nat → Int32} (hn : M 2 = nI n) (c : Int32) : gl_Ct F LH yX0_numberWith wsX0_numberWith rmX0_numberWith [.ref (gl_r F 9), .int c] M (some (.int (sp_with M c n))) (M) := by
  refine gl_met (cc := cX0_numberWith) (maxL := 2) (ret := some .int) [some (.ref (gl_r F 9)), some (.int c)] (plainFor_of_name (by decide)) rfl ok_LH (by simp [Value.category]) (Nat.le_of_ble_eq_true rfl) rfl (fun V hV C => ?_)
  subst hV
  refine gl_aload_0 (pc := 0) C dX0_numberWith_0 ?_
  refine gl_iload_1 (pc := 1) C dX0_numberWith_1 ?_
  refine gl_iconst (pc := 2) (nI 1) C dX0_numberWith_2 (by decide) ?_
  refine gl_callVi (pc := 3) (ctX0_numberOf V.1 hn40 hn c (nI 1)) C dX0_numberWith_3 gX0_numberWith_X0_numberOf rfl hdX0_numberOf ⟨rfl, rfl, Nat.le_of_ble_eq_true rfl, Nat.le_of_ble_eq_true rfl⟩ rfl (Nat.le_of_ble_eq_true rfl) rfl rfl rfl ?_
  refine gl_aload_0 (pc := 6) C dX0_numberWith_6 ?_
  refine gl_iload_1 (pc := 7) C dX0_numberWith_7 ?_
  refine gl_iconst (pc := 8) (nI 2) C dX0_numberWith_8 (by decide) ?_
  refine gl_callVi (pc := 9) (ctX0_numberOf V.1 hn40 hn c (nI 2)) C dX0_numberWith_9 gX0_numberWith_X0_numberOf rfl hdX0_numberOf ⟨rfl, rfl, Nat.le_of_ble_eq_true rfl, Nat.le_of_ble_eq_true rfl⟩ rfl (Nat.le_of_ble_eq_true rfl) rfl rfl rfl ?_
  first | with_reducible refine gl_iaddN (pc := 12) C dX0_numberWith_12 ?_ | refine gl_iadd (pc := 12) C dX0_numberWith_12 ?_
  exact gl_iret (pc := 13) C dX0_numberWith_13 (rfl) (rfl)
set_option maxRecDepth 100000 in
set_option maxHeartbeats 4000000 in
theorem ctX0_stopsOf (F : gl_F) {n : Nat} (hn40 : n ≤ 40) {M : Nat → Int32} (hn : M 2 = nI n) (c : Int32) : gl_Ct F LH yX0_stopsOf wsX0_stopsOf rmX0_stopsOf [.ref (gl_r F 9), .int c] M (some (.int (sp_stops M c n))) (M) := by
  refine gl_met (cc := cX0_stopsOf) (maxL := 4) (ret := some .int) [some (.ref (gl_r F 9)), some (.int c), none, none] (plainFor_of_name (by decide)) rfl ok_LH (by simp [Value.category]) (Nat.le_of_ble_eq_true rfl) rfl (fun V hV C => ?_)
  subst hV
  refine gl_iconst (pc := 0) (nI 0) C dX0_stopsOf_0 (by decide) ?_
  refine gl_istore_2 (pc := 1) C dX0_stopsOf_1 ?_
  refine gl_iconst (pc := 2) (nI 0) C dX0_stopsOf_2 (by decide) ?_
  refine gl_istore_3 (pc := 3) C dX0_stopsOf_3 ?_
  refine gl_loop (pc := 4) (n := n) (fun k => [some (.ref (gl_r V.1 9)), some (.int c), some (.int (sp_stops M c k)), some (.int (nI k))]) (fun k => M) (fun k => True) 0 (Nat.zero_le _) (trivial) (gl_le_c (rfl) (gl_le_c (rfl) (gl_le_c (rfl) (gl_le_c (rfl) (gl_le_n))))) (rfl) (fun hI => ?_) (fun k hk hI ih => ?_)
  · skip
    refine gl_iload_3 (pc := 4) C dX0_stopsOf_4 ?_
    refine gl_aload_0 (pc := 5) C dX0_stopsOf_5 ?_
    refine gl_getI (pc := 6) C dX0_stopsOf_6 fX0_stopsOf_36 rfl rfl ?_
    refine gl_top hn ?_
    refine gl_icmp_ge (pc := 9) 70 C dX0_stopsOf_9 (by decide) (fun h9 => ?_) (fun h9 => absurd h9 (gl_xge))
    refine gl_iload_2 (pc := 70) C dX0_stopsOf_70 ?_
    exact gl_iret (pc := 71) C dX0_stopsOf_71 (rfl) (rfl)
  · skip
    refine gl_iload_3 (pc := 4) C dX0_stopsOf_4 ?_
    refine gl_aload_0 (pc := 5) C dX0_stopsOf_5 ?_
    refine gl_getI (pc := 6) C dX0_stopsOf_6 fX0_stopsOf_36 rfl rfl ?_
    refine gl_top hn ?_
    refine gl_icmp_ge (pc := 9) 70 C dX0_stopsOf_9 (by decide) (fun h9 => absurd h9 (nI_ge hk (by omega))) (fun h9 => ?_)
    refine gl_aload_0 (pc := 12) C dX0_stopsOf_12 ?_
    refine gl_iload_3 (pc := 13) C dX0_stopsOf_13 ?_
    refine gl_iload_1 (pc := 14) C dX0_stopsOf_14 ?_
    refine gl_callVi (pc := 15) (ctX0_waitsFor V.1 M k (by omega) c) C dX0_stopsOf_15 gX0_stopsOf_X0_waitsFor rfl hdX0_waitsFor ⟨rfl, rfl, Nat.le_of_ble_eq_true rfl, Nat.le_of_ble_eq_true rfl⟩ rfl (Nat.le_of_ble_eq_true rfl) rfl rfl rfl ?_
    refine gl_ifeq (pc := 18) 44 C dX0_stopsOf_18 (by decide) (fun h18 => ?_) (fun h18 => ?_)
    · skip
      replace h18 := gl_bz.mp h18
      refine gl_aload_0 (pc := 44) C dX0_stopsOf_44 ?_
      refine gl_iload_3 (pc := 45) C dX0_stopsOf_45 ?_
      refine gl_iload_1 (pc := 46) C dX0_stopsOf_46 ?_
      refine gl_callVi (pc := 47) (ctX0_rides V.1 M k (by omega) c) C dX0_stopsOf_47 gX0_stopsOf_X0_rides rfl hdX0_rides ⟨rfl, rfl, Nat.le_of_ble_eq_true rfl, Nat.le_of_ble_eq_true rfl⟩ rfl (Nat.le_of_ble_eq_true rfl) rfl rfl rfl ?_
      refine gl_ifeq (pc := 50) 64 C dX0_stopsOf_50 (by decide) (fun h50 => ?_) (fun h50 => ?_)
      · skip
        replace h50 := gl_bz.mp h50
        first | with_reducible refine gl_iincN_3 (pc := 64) gl_i1 C dX0_stopsOf_64 ?_ | refine gl_iinc_3 (pc := 64) C dX0_stopsOf_64 (gl_inc1 _) ?_
        refine gl_goto (pc := 67) 4 C dX0_stopsOf_67 (by decide) ?_
        exact gl_on (ih (trivial)) (gl_le_c (rfl) (gl_le_c (rfl) (gl_le_c (congrArg Value.int (by simp only [sp_stops, if_pos, if_neg, *]; try simp [*])) (gl_le_c (rfl) (gl_le_n))))) (rfl)
      · skip
        replace h50 := gl_bn.mp h50
        refine gl_iload_2 (pc := 53) C dX0_stopsOf_53 ?_
        refine gl_iconst (pc := 54) (nI 1) C dX0_stopsOf_54 (by decide) ?_
        refine gl_aload_0 (pc := 55) C dX0_stopsOf_55 ?_
        refine gl_getR (pc := 56) C dX0_stopsOf_56 fX0_stopsOf_15 rfl rfl ?_
        refine gl_iload_3 (pc := 59) C dX0_stopsOf_59 ?_
        refine gl_iald (pc := 60) _ C dX0_stopsOf_60 rfl rfl (by omega) ?_
        refine gl_ishl (pc := 61) C dX0_stopsOf_61 ?_
        refine gl_ior (pc := 62) C dX0_stopsOf_62 ?_
        refine gl_istore_2 (pc := 63) C dX0_stopsOf_63 ?_
        first | with_reducible refine gl_iincN_3 (pc := 64) gl_i1 C dX0_stopsOf_64 ?_ | refine gl_iinc_3 (pc := 64) C dX0_stopsOf_64 (gl_inc1 _) ?_
        refine gl_goto (pc := 67) 4 C dX0_stopsOf_67 (by decide) ?_
        exact gl_on (ih (trivial)) (gl_le_c (rfl) (gl_le_c (rfl) (gl_le_c (congrArg Value.int (by simp only [sp_stops, if_pos, if_neg, *]; try simp [*])) (gl_le_c (rfl) (gl_le_n))))) (rfl)
    · skip
      replace h18 := gl_bn.mp h18
      refine gl_iload_2 (pc := 21) C dX0_stopsOf_21 ?_
      refine gl_iconst (pc := 22) (nI 1) C dX0_stopsOf_22 (by decide) ?_
      refine gl_aload_0 (pc := 23) C dX0_stopsOf_23 ?_
      refine gl_getR (pc := 24) C dX0_stopsOf_24 fX0_stopsOf_9 rfl rfl ?_
      refine gl_iload_3 (pc := 27) C dX0_stopsOf_27 ?_
      refine gl_iald (pc := 28) _ C dX0_stopsOf_28 rfl rfl (by omega) ?_
      refine gl_ishl (pc := 29) C dX0_stopsOf_29 ?_
      refine gl_iconst (pc := 30) (nI 1) C dX0_stopsOf_30 (by decide) ?_
      refine gl_aload_0 (pc := 31) C dX0_stopsOf_31 ?_
      refine gl_getR (pc := 32) C dX0_stopsOf_32 fX0_stopsOf_15 rfl rfl ?_
      refine gl_iload_3 (pc := 35) C dX0_stopsOf_35 ?_
      refine gl_iald (pc := 36) _ C dX0_stopsOf_36 rfl rfl (by omega) ?_
      refine gl_ishl (pc := 37) C dX0_stopsOf_37 ?_
      refine gl_ior (pc := 38) C dX0_stopsOf_38 ?_
      refine gl_ior (pc := 39) C dX0_stopsOf_39 ?_
      refine gl_istore_2 (pc := 40) C dX0_stopsOf_40 ?_
      refine gl_goto (pc := 41) 64 C dX0_stopsOf_41 (by decide) ?_
      first | with_reducible refine gl_iincN_3 (pc := 64) gl_i1 C dX0_stopsOf_64 ?_ | refine gl_iinc_3 (pc := 64) C dX0_stopsOf_64 (gl_inc1 _) ?_
      refine gl_goto (pc := 67) 4 C dX0_stopsOf_67 (by decide) ?_
      exact gl_on (ih (trivial)) (gl_le_c (rfl) (gl_le_c (rfl) (gl_le_c (congrArg Value.int (by simp only [sp_stops, if_pos, if_neg, *]; try simp [*])) (gl_le_c (rfl) (gl_le_n))))) (rfl)
set_option maxRecDepth 100000 in
set_option maxHeartbeats 4000000 in
theorem ctX0_isNearer (F : gl_F) (M : Nat → Int32) {a b fl : Int32} (ha : sp_fl a) (hb : sp_fl b) (hf : sp_fl fl) : gl_Ct F LH yX0_isNearer wsX0_isNearer rmX0_isNearer [.int a, .int b, .int fl] M (some (.int (if sp_near a b fl then nI 1 else nI 0))) (M) := by
  refine gl_met (cc := cX0_isNearer) (maxL := 5) (ret := some .boolean) [some (.int a), some (.int b), some (.int fl), none, none] (plainFor_of_name (by decide)) rfl ok_LH (by simp [Value.category]) (Nat.le_of_ble_eq_true rfl) rfl (fun V hV C => ?_)
  subst hV
  refine gl_iload_0 (pc := 0) C dX0_isNearer_0 ?_
  refine gl_iload_2 (pc := 1) C dX0_isNearer_1 ?_
  refine gl_isub (pc := 2) C dX0_isNearer_2 ?_
  refine gl_abs (pc := 3) C dX0_isNearer_3 (by decide +kernel) (by decide +kernel) (by decide +kernel) (by decide +kernel) ⟨Nat.le_of_ble_eq_true rfl, Nat.le_of_ble_eq_true rfl⟩ ?_
  refine gl_top (sp_far_abs ha hf) ?_
  refine gl_istore_3 (pc := 6) C dX0_isNearer_6 ?_
  refine gl_iload_1 (pc := 7) C dX0_isNearer_7 ?_
  refine gl_iload_2 (pc := 8) C dX0_isNearer_8 ?_
  refine gl_isub (pc := 9) C dX0_isNearer_9 ?_
  refine gl_abs (pc := 10) C dX0_isNearer_10 (by decide +kernel) (by decide +kernel) (by decide +kernel) (by decide +kernel) ⟨Nat.le_of_ble_eq_true rfl, Nat.le_of_ble_eq_true rfl⟩ ?_
  refine gl_top (sp_far_abs hb hf) ?_
  refine gl_istore_4 (pc := 13) C dX0_isNearer_13 ?_
  refine gl_iload_3 (pc := 15) C dX0_isNearer_15 ?_
  refine gl_iload_4 (pc := 16) C dX0_isNearer_16 ?_
  refine gl_icmp_lt (pc := 18) 32 C dX0_isNearer_18 (by decide) (fun h18 => ?_) (fun h18 => ?_)
  · skip
    refine gl_iconst (pc := 32) (nI 1) C dX0_isNearer_32 (by decide) ?_
    refine gl_goto (pc := 33) 37 C dX0_isNearer_33 (by decide) ?_
    exact gl_zret (pc := 37) C dX0_isNearer_37 (by rfl) (by simp [sp_near, *]) (rfl)
  · skip
    refine gl_iload_3 (pc := 21) C dX0_isNearer_21 ?_
    refine gl_iload_4 (pc := 22) C dX0_isNearer_22 ?_
    refine gl_icmp_ne (pc := 24) 36 C dX0_isNearer_24 (by decide) (fun h24 => ?_) (fun h24 => ?_)
    · skip
      refine gl_iconst (pc := 36) (nI 0) C dX0_isNearer_36 (by decide) ?_
      exact gl_zret (pc := 37) C dX0_isNearer_37 (by rfl) (by simp [sp_near, *]) (rfl)
    · skip
      refine gl_iload_0 (pc := 27) C dX0_isNearer_27 ?_
      refine gl_iload_1 (pc := 28) C dX0_isNearer_28 ?_
      refine gl_icmp_ge (pc := 29) 36 C dX0_isNearer_29 (by decide) (fun h29 => ?_) (fun h29 => ?_)
      · skip
        replace h29 := Int32.not_lt.mpr h29
        refine gl_iconst (pc := 36) (nI 0) C dX0_isNearer_36 (by decide) ?_
        exact gl_zret (pc := 37) C dX0_isNearer_37 (by rfl) (by simp [sp_near, *]) (rfl)
      · skip
        replace h29 := Int32.not_le.mp h29
        refine gl_iconst (pc := 32) (nI 1) C dX0_isNearer_32 (by decide) ?_
        refine gl_goto (pc := 33) 37 C dX0_isNearer_33 (by decide) ?_
        exact gl_zret (pc := 37) C dX0_isNearer_37 (by rfl) (by simp [sp_near, *]) (rfl)
set_option maxRecDepth 100000 in
set_option maxHeartbeats 4000000 in
theorem ctX0_isInGroup (F : gl_F) (M : Nat → Int32) (k : Nat) (hk : k < 40) : gl_Ct F LH yX0_isInGroup wsX0_isInGroup rmX0_isInGroup [.ref (gl_r F 9), .int (nI k)] M (some (.int (if sp_open M k then nI 1 else nI 0))) (M) := by
  refine gl_met (cc := cX0_isInGroup) (maxL := 2) (ret := some .boolean) [some (.ref (gl_r F 9)), some (.int (nI k))] (plainFor_of_name (by decide)) rfl ok_LH (by simp [Value.category]) (Nat.le_of_ble_eq_true rfl) rfl (fun V hV C => ?_)
  subst hV
  refine gl_aload_0 (pc := 0) C dX0_isInGroup_0 ?_
  refine gl_getR (pc := 1) C dX0_isInGroup_1 fX0_isInGroup_18 rfl rfl ?_
  refine gl_iload_1 (pc := 4) C dX0_isInGroup_4 ?_
  refine gl_iald (pc := 5) _ C dX0_isInGroup_5 rfl rfl (by omega) ?_
  refine gl_ifeq (pc := 6) 19 C dX0_isInGroup_6 (by decide) (fun h6 => ?_) (fun h6 => ?_)
  · skip
    refine gl_iconst (pc := 19) (nI 1) C dX0_isInGroup_19 (by decide) ?_
    refine gl_goto (pc := 20) 24 C dX0_isInGroup_20 (by decide) ?_
    exact gl_zret (pc := 24) C dX0_isInGroup_24 (by rfl) (by simp [sp_open, *]) (rfl)
  · skip
    refine gl_aload_0 (pc := 9) C dX0_isInGroup_9 ?_
    refine gl_getR (pc := 10) C dX0_isInGroup_10 fX0_isInGroup_18 rfl rfl ?_
    refine gl_iload_1 (pc := 13) C dX0_isInGroup_13 ?_
    refine gl_iald (pc := 14) _ C dX0_isInGroup_14 rfl rfl (by omega) ?_
    refine gl_iconst (pc := 15) (nI 1) C dX0_isInGroup_15 (by decide) ?_
    refine gl_icmp_ne (pc := 16) 23 C dX0_isInGroup_16 (by decide) (fun h16 => ?_) (fun h16 => ?_)
    · skip
      refine gl_iconst (pc := 23) (nI 0) C dX0_isInGroup_23 (by decide) ?_
      exact gl_zret (pc := 24) C dX0_isInGroup_24 (by rfl) (by simp [sp_open, *]) (rfl)
    · skip
      refine gl_iconst (pc := 19) (nI 1) C dX0_isInGroup_19 (by decide) ?_
      refine gl_goto (pc := 20) 24 C dX0_isInGroup_20 (by decide) ?_
      exact gl_zret (pc := 24) C dX0_isInGroup_24 (by rfl) (by simp [sp_open, *]) (rfl)
set_option maxRecDepth 100000 in
set_option maxHeartbeats 4000000 in
theorem ctX0_sameGroup (F : gl_F) (M : Nat → Int32) (j k : Nat) (hj : j < 40) (hk : k < 40) : gl_Ct F LH yX0_sameGroup wsX0_sameGroup rmX0_sameGroup [.ref (gl_r F 9), .int (nI j), .int (nI k)] M (some (.int (if sp_same M j k then nI 1 else nI 0))) (M) := by
  refine gl_met (cc := cX0_sameGroup) (maxL := 3) (ret := some .boolean) [some (.ref (gl_r F 9)), some (.int (nI j)), some (.int (nI k))] (plainFor_of_name (by decide)) rfl ok_LH (by simp [Value.category]) (Nat.le_of_ble_eq_true rfl) rfl (fun V hV C => ?_)
  subst hV
  refine gl_aload_0 (pc := 0) C dX0_sameGroup_0 ?_
  refine gl_iload_1 (pc := 1) C dX0_sameGroup_1 ?_
  refine gl_callVi (pc := 2) (ctX0_isInGroup V.1 M j hj) C dX0_sameGroup_2 gX0_sameGroup_X0_isInGroup rfl hdX0_isInGroup ⟨rfl, rfl, Nat.le_of_ble_eq_true rfl, Nat.le_of_ble_eq_true rfl⟩ rfl (Nat.le_of_ble_eq_true rfl) rfl rfl rfl ?_
  refine gl_ifeq (pc := 5) 50 C dX0_sameGroup_5 (by decide) (fun h5 => ?_) (fun h5 => ?_)
  · skip
    replace h5 := gl_bz.mp h5
    refine gl_iconst (pc := 50) (nI 0) C dX0_sameGroup_50 (by decide) ?_
    exact gl_zret (pc := 51) C dX0_sameGroup_51 (by rfl) (by simp only [sp_same, *]; try simp [*]) (rfl)
  · skip
    replace h5 := gl_bn.mp h5
    refine gl_aload_0 (pc := 8) C dX0_sameGroup_8 ?_
    refine gl_iload_2 (pc := 9) C dX0_sameGroup_9 ?_
    refine gl_callVi (pc := 10) (ctX0_isInGroup V.1 M k hk) C dX0_sameGroup_10 gX0_sameGroup_X0_isInGroup rfl hdX0_isInGroup ⟨rfl, rfl, Nat.le_of_ble_eq_true rfl, Nat.le_of_ble_eq_true rfl⟩ rfl (Nat.le_of_ble_eq_true rfl) rfl rfl rfl ?_
    refine gl_ifeq (pc := 13) 50 C dX0_sameGroup_13 (by decide) (fun h13 => ?_) (fun h13 => ?_)
    · skip
      replace h13 := gl_bz.mp h13
      refine gl_iconst (pc := 50) (nI 0) C dX0_sameGroup_50 (by decide) ?_
      exact gl_zret (pc := 51) C dX0_sameGroup_51 (by rfl) (by simp only [sp_same, *]; try simp [*]) (rfl)
    · skip
      replace h13 := gl_bn.mp h13
      refine gl_aload_0 (pc := 16) C dX0_sameGroup_16 ?_
      refine gl_getR (pc := 17) C dX0_sameGroup_17 fX0_sameGroup_9 rfl rfl ?_
      refine gl_iload_1 (pc := 20) C dX0_sameGroup_20 ?_
      refine gl_iald (pc := 21) _ C dX0_sameGroup_21 rfl rfl (by omega) ?_
      refine gl_aload_0 (pc := 22) C dX0_sameGroup_22 ?_
      refine gl_getR (pc := 23) C dX0_sameGroup_23 fX0_sameGroup_9 rfl rfl ?_
      refine gl_iload_2 (pc := 26) C dX0_sameGroup_26 ?_
      refine gl_iald (pc := 27) _ C dX0_sameGroup_27 rfl rfl (by omega) ?_
      refine gl_icmp_ne (pc := 28) 50 C dX0_sameGroup_28 (by decide) (fun h28 => ?_) (fun h28 => ?_)
      · skip
        refine gl_iconst (pc := 50) (nI 0) C dX0_sameGroup_50 (by decide) ?_
        exact gl_zret (pc := 51) C dX0_sameGroup_51 (by rfl) (by simp only [sp_same, *]; try simp [*]) (rfl)
      · skip
        refine gl_aload_0 (pc := 31) C dX0_sameGroup_31 ?_
        refine gl_getR (pc := 32) C dX0_sameGroup_32 fX0_sameGroup_15 rfl rfl ?_
        refine gl_iload_1 (pc := 35) C dX0_sameGroup_35 ?_
        refine gl_iald (pc := 36) _ C dX0_sameGroup_36 rfl rfl (by omega) ?_
        refine gl_aload_0 (pc := 37) C dX0_sameGroup_37 ?_
        refine gl_getR (pc := 38) C dX0_sameGroup_38 fX0_sameGroup_15 rfl rfl ?_
        refine gl_iload_2 (pc := 41) C dX0_sameGroup_41 ?_
        refine gl_iald (pc := 42) _ C dX0_sameGroup_42 rfl rfl (by omega) ?_
        refine gl_icmp_ne (pc := 43) 50 C dX0_sameGroup_43 (by decide) (fun h43 => ?_) (fun h43 => ?_)
        · skip
          refine gl_iconst (pc := 50) (nI 0) C dX0_sameGroup_50 (by decide) ?_
          exact gl_zret (pc := 51) C dX0_sameGroup_51 (by rfl) (by simp only [sp_same, *]; try simp [*]) (rfl)
        · skip
          refine gl_iconst (pc := 46) (nI 1) C dX0_sameGroup_46 (by decide) ?_
          refine gl_goto (pc := 47) 51 C dX0_sameGroup_47 (by decide) ?_
          exact gl_zret (pc := 51) C dX0_sameGroup_51 (by rfl) (by simp only [sp_same, *]; try simp [*]) (rfl)
set_option maxRecDepth 100000 in
set_option maxHeartbeats 4000000 in
theorem ctX0_isFirstOfGroup (F : gl_F) (M : Nat → Int32) (k : Nat) (hk : k < 40) : gl_Ct F LH yX0_isFirstOfGroup wsX0_isFirstOfGroup rmX0_isFirstOfGroup [.ref (gl_r F 9), .int (nI k)] M (some (.int (if sp_first M k then nI 1 else nI 0))) (M) := by
  refine gl_met (cc := cX0_isFirstOfGroup) (maxL := 3) (ret := some .boolean) [some (.ref (gl_r F 9)), some (.int (nI k)), none] (plainFor_of_name (by decide)) rfl ok_LH (by simp [Value.category]) (Nat.le_of_ble_eq_true rfl) rfl (fun V hV C => ?_)
  subst hV
  refine gl_iconst (pc := 0) (nI 0) C dX0_isFirstOfGroup_0 (by decide) ?_
  refine gl_istore_2 (pc := 1) C dX0_isFirstOfGroup_1 ?_
  refine gl_loop (pc := 2) (n := k) (fun j => [some (.ref (gl_r V.1 9)), some (.int (nI k)), some (.int (nI j))]) (fun j => M) (fun j => sp_none M k j = true) 0 (Nat.zero_le _) (rfl) (gl_le_c (rfl) (gl_le_c (rfl) (gl_le_c (rfl) (gl_le_n)))) (rfl) (fun hI => ?_) (fun j hj hI ih => ?_)
  · skip
    refine gl_iload_2 (pc := 2) C dX0_isFirstOfGroup_2 ?_
    refine gl_iload_1 (pc := 3) C dX0_isFirstOfGroup_3 ?_
    refine gl_icmp_ge (pc := 4) 24 C dX0_isFirstOfGroup_4 (by decide) (fun h4 => ?_) (fun h4 => absurd h4 (gl_xge))
    refine gl_aload_0 (pc := 24) C dX0_isFirstOfGroup_24 ?_
    refine gl_iload_1 (pc := 25) C dX0_isFirstOfGroup_25 ?_
    refine gl_callVi (pc := 26) (ctX0_isInGroup V.1 M k hk) C dX0_isFirstOfGroup_26 gX0_isFirstOfGroup_X0_isInGroup rfl hdX0_isInGroup ⟨rfl, rfl, Nat.le_of_ble_eq_true rfl, Nat.le_of_ble_eq_true rfl⟩ rfl (Nat.le_of_ble_eq_true rfl) rfl rfl rfl ?_
    exact gl_zret (pc := 29) C dX0_isFirstOfGroup_29 (gl_nb) (by simp [sp_first, hI]) (rfl)
  · skip
    refine gl_iload_2 (pc := 2) C dX0_isFirstOfGroup_2 ?_
    refine gl_iload_1 (pc := 3) C dX0_isFirstOfGroup_3 ?_
    refine gl_icmp_ge (pc := 4) 24 C dX0_isFirstOfGroup_4 (by decide) (fun h4 => absurd h4 (nI_ge hj (by omega))) (fun h4 => ?_)
    refine gl_aload_0 (pc := 7) C dX0_isFirstOfGroup_7 ?_
    refine gl_iload_2 (pc := 8) C dX0_isFirstOfGroup_8 ?_
    refine gl_iload_1 (pc := 9) C dX0_isFirstOfGroup_9 ?_
    refine gl_callVi (pc := 10) (ctX0_sameGroup V.1 M j k (by omega) hk) C dX0_isFirstOfGroup_10 gX0_isFirstOfGroup_X0_sameGroup rfl hdX0_sameGroup ⟨rfl, rfl, Nat.le_of_ble_eq_true rfl, Nat.le_of_ble_eq_true rfl⟩ rfl (Nat.le_of_ble_eq_true rfl) rfl rfl rfl ?_
    refine gl_ifeq (pc := 13) 18 C dX0_isFirstOfGroup_13 (by decide) (fun h13 => ?_) (fun h13 => ?_)
    · skip
      replace h13 := gl_bz.mp h13
      first | with_reducible refine gl_iincN_2 (pc := 18) gl_i1 C dX0_isFirstOfGroup_18 ?_ | refine gl_iinc_2 (pc := 18) C dX0_isFirstOfGroup_18 (gl_inc1 _) ?_
      refine gl_goto (pc := 21) 2 C dX0_isFirstOfGroup_21 (by decide) ?_
      exact gl_on (ih (by simp [sp_none, hI, h13])) (gl_le_c (rfl) (gl_le_c (rfl) (gl_le_c (rfl) (gl_le_n)))) (rfl)
    · skip
      replace h13 := gl_bn.mp h13
      refine gl_iconst (pc := 16) (nI 0) C dX0_isFirstOfGroup_16 (by decide) ?_
      exact gl_zret (pc := 17) C dX0_isFirstOfGroup_17 (by rfl) (by rw [if_neg]; rintro ⟨q, -⟩; rw [sp_none_no h13 k hj] at q; cases q) (rfl)
set_option maxRecDepth 100000 in
set_option maxHeartbeats 4000000 in
theorem ctX0_numberOfGroups (F : gl_F) {n : Nat} (hn40 : n ≤ 40) {M : Nat → Int32} (hn : M 2 = nI n) : gl_Ct F LH yX0_numberOfGroups wsX0_numberOfGroups rmX0_numberOfGroups [.ref (gl_r F 9)] M (some (.int (nI (sp_groups M n)))) (M) := by
  refine gl_met (cc := cX0_numberOfGroups) (maxL := 3) (ret := some .int) [some (.ref (gl_r F 9)), none, none] (plainFor_of_name (by decide)) rfl ok_LH (by simp [Value.category]) (Nat.le_of_ble_eq_true rfl) rfl (fun V hV C => ?_)
  subst hV
  refine gl_iconst (pc := 0) (nI 0) C dX0_numberOfGroups_0 (by decide) ?_
  refine gl_istore_1 (pc := 1) C dX0_numberOfGroups_1 ?_
  refine gl_iconst (pc := 2) (nI 0) C dX0_numberOfGroups_2 (by decide) ?_
  refine gl_istore_2 (pc := 3) C dX0_numberOfGroups_3 ?_
  refine gl_loop (pc := 4) (n := n) (fun k => [some (.ref (gl_r V.1 9)), some (.int (nI (sp_groups M k))), some (.int (nI k))]) (fun k => M) (fun k => True) 0 (Nat.zero_le _) (trivial) (gl_le_c (rfl) (gl_le_c (rfl) (gl_le_c (rfl) (gl_le_n)))) (rfl) (fun hI => ?_) (fun k hk hI ih => ?_)
  · skip
    refine gl_iload_2 (pc := 4) C dX0_numberOfGroups_4 ?_
    refine gl_aload_0 (pc := 5) C dX0_numberOfGroups_5 ?_
    refine gl_getI (pc := 6) C dX0_numberOfGroups_6 fX0_numberOfGroups_36 rfl rfl ?_
    refine gl_top hn ?_
    refine gl_icmp_ge (pc := 9) 29 C dX0_numberOfGroups_9 (by decide) (fun h9 => ?_) (fun h9 => absurd h9 (gl_xge))
    refine gl_iload_1 (pc := 29) C dX0_numberOfGroups_29 ?_
    exact gl_iret (pc := 30) C dX0_numberOfGroups_30 (rfl) (rfl)
  · skip
    refine gl_iload_2 (pc := 4) C dX0_numberOfGroups_4 ?_
    refine gl_aload_0 (pc := 5) C dX0_numberOfGroups_5 ?_
    refine gl_getI (pc := 6) C dX0_numberOfGroups_6 fX0_numberOfGroups_36 rfl rfl ?_
    refine gl_top hn ?_
    refine gl_icmp_ge (pc := 9) 29 C dX0_numberOfGroups_9 (by decide) (fun h9 => absurd h9 (nI_ge hk (by omega))) (fun h9 => ?_)
    refine gl_aload_0 (pc := 12) C dX0_numberOfGroups_12 ?_
    refine gl_iload_2 (pc := 13) C dX0_numberOfGroups_13 ?_
    refine gl_callVi (pc := 14) (ctX0_isFirstOfGroup V.1 M k (by omega)) C dX0_numberOfGroups_14 gX0_numberOfGroups_X0_isFirstOfGroup rfl hdX0_isFirstOfGroup ⟨rfl, rfl, Nat.le_of_ble_eq_true rfl, Nat.le_of_ble_eq_true rfl⟩ rfl (Nat.le_of_ble_eq_true rfl) rfl rfl rfl ?_
    refine gl_ifeq (pc := 17) 23 C dX0_numberOfGroups_17 (by decide) (fun h17 => ?_) (fun h17 => ?_)
    · skip
      replace h17 := gl_bz.mp h17
      first | with_reducible refine gl_iincN_2 (pc := 23) gl_i1 C dX0_numberOfGroups_23 ?_ | refine gl_iinc_2 (pc := 23) C dX0_numberOfGroups_23 (gl_inc1 _) ?_
      refine gl_goto (pc := 26) 4 C dX0_numberOfGroups_26 (by decide) ?_
      exact gl_on (ih (trivial)) (gl_le_c (rfl) (gl_le_c (congrArg Value.int (by first | rw [sp_groups, if_pos h17] | rw [sp_groups, if_neg h17])) (gl_le_c (rfl) (gl_le_n)))) (rfl)
    · skip
      replace h17 := gl_bn.mp h17
      first | with_reducible refine gl_iincN_1 (pc := 20) gl_i1 C dX0_numberOfGroups_20 ?_ | refine gl_iinc_1 (pc := 20) C dX0_numberOfGroups_20 (gl_inc1 _) ?_
      first | with_reducible refine gl_iincN_2 (pc := 23) gl_i1 C dX0_numberOfGroups_23 ?_ | refine gl_iinc_2 (pc := 23) C dX0_numberOfGroups_23 (gl_inc1 _) ?_
      refine gl_goto (pc := 26) 4 C dX0_numberOfGroups_26 (by decide) ?_
      exact gl_on (ih (trivial)) (gl_le_c (rfl) (gl_le_c (congrArg Value.int (by first | rw [sp_groups, if_pos h17] | rw [sp_groups, if_neg h17])) (gl_le_c (rfl) (gl_le_n)))) (rfl)
set_option maxRecDepth 100000 in
set_option maxHeartbeats 4000000 in
theorem ctX0_firstOfGroup (F : gl_F) {n : Nat} (hn40 : n ≤ 40) {M : Nat → Int32} (hn : M 2 = nI n) (i : Int32) : gl_Ct F LH yX0_firstOfGroup wsX0_firstOfGroup rmX0_firstOfGroup [.ref (gl_r F 9), .int i] M (some (.int (sp_fog M i n))) (M) := by
  refine gl_met (cc := cX0_firstOfGroup) (maxL := 4) (ret := some .int) [some (.ref (gl_r F 9)), some (.int i), none, none] (plainFor_of_name (by decide)) rfl ok_LH (by simp [Value.category]) (Nat.le_of_ble_eq_true rfl) rfl (fun V hV C => ?_)
  subst hV
  refine gl_iconst (pc := 0) (nI 0) C dX0_firstOfGroup_0 (by decide) ?_
  refine gl_istore_2 (pc := 1) C dX0_firstOfGroup_1 ?_
  refine gl_iconst (pc := 2) (nI 0) C dX0_firstOfGroup_2 (by decide) ?_
  refine gl_istore_3 (pc := 3) C dX0_firstOfGroup_3 ?_
  refine gl_loop (pc := 4) (n := n) (fun k => [some (.ref (gl_r V.1 9)), some (.int i), some (.int (nI (sp_groups M k))), some (.int (nI k))]) (fun k => M) (fun k => sp_fog M i k = -9) 0 (Nat.zero_le _) (rfl) (gl_le_c (rfl) (gl_le_c (rfl) (gl_le_c (rfl) (gl_le_c (rfl) (gl_le_n))))) (rfl) (fun hI => ?_) (fun k hk hI ih => ?_)
  · skip
    refine gl_iload_3 (pc := 4) C dX0_firstOfGroup_4 ?_
    refine gl_aload_0 (pc := 5) C dX0_firstOfGroup_5 ?_
    refine gl_getI (pc := 6) C dX0_firstOfGroup_6 fX0_firstOfGroup_36 rfl rfl ?_
    refine gl_top hn ?_
    refine gl_icmp_ge (pc := 9) 39 C dX0_firstOfGroup_9 (by decide) (fun h9 => ?_) (fun h9 => absurd h9 (gl_xge))
    refine gl_bipush (pc := 39) (-9) C dX0_firstOfGroup_39 (by decide +kernel) ?_
    exact gl_iret (pc := 41) C dX0_firstOfGroup_41 (hI.symm) (rfl)
  · skip
    refine gl_iload_3 (pc := 4) C dX0_firstOfGroup_4 ?_
    refine gl_aload_0 (pc := 5) C dX0_firstOfGroup_5 ?_
    refine gl_getI (pc := 6) C dX0_firstOfGroup_6 fX0_firstOfGroup_36 rfl rfl ?_
    refine gl_top hn ?_
    refine gl_icmp_ge (pc := 9) 39 C dX0_firstOfGroup_9 (by decide) (fun h9 => absurd h9 (nI_ge hk (by omega))) (fun h9 => ?_)
    refine gl_aload_0 (pc := 12) C dX0_firstOfGroup_12 ?_
    refine gl_iload_3 (pc := 13) C dX0_firstOfGroup_13 ?_
    refine gl_callVi (pc := 14) (ctX0_isFirstOfGroup V.1 M k (by omega)) C dX0_firstOfGroup_14 gX0_firstOfGroup_X0_isFirstOfGroup rfl hdX0_isFirstOfGroup ⟨rfl, rfl, Nat.le_of_ble_eq_true rfl, Nat.le_of_ble_eq_true rfl⟩ rfl (Nat.le_of_ble_eq_true rfl) rfl rfl rfl ?_
    refine gl_ifne (pc := 17) 23 C dX0_firstOfGroup_17 (by decide) (fun h17 => ?_) (fun h17 => ?_)
    · skip
      replace h17 := gl_bn.mp h17
      refine gl_iload_2 (pc := 23) C dX0_firstOfGroup_23 ?_
      refine gl_iload_1 (pc := 24) C dX0_firstOfGroup_24 ?_
      refine gl_icmp_ne (pc := 25) 30 C dX0_firstOfGroup_25 (by decide) (fun h25 => ?_) (fun h25 => ?_)
      · skip
        first | with_reducible refine gl_iincN_2 (pc := 30) gl_i1 C dX0_firstOfGroup_30 ?_ | refine gl_iinc_2 (pc := 30) C dX0_firstOfGroup_30 (gl_inc1 _) ?_
        first | with_reducible refine gl_iincN_3 (pc := 33) gl_i1 C dX0_firstOfGroup_33 ?_ | refine gl_iinc_3 (pc := 33) C dX0_firstOfGroup_33 (gl_inc1 _) ?_
        refine gl_goto (pc := 36) 4 C dX0_firstOfGroup_36 (by decide) ?_
        exact gl_on (ih (by rw [sp_fog, if_neg]; exact hI; intro q; first | exact h17 q.1 | exact h25 q.2)) (gl_le_c (rfl) (gl_le_c (rfl) (gl_le_c (congrArg Value.int (by first | rw [sp_groups, if_pos h17] | rw [sp_groups, if_neg h17])) (gl_le_c (rfl) (gl_le_n))))) (rfl)
      · skip
        refine gl_iload_3 (pc := 28) C dX0_firstOfGroup_28 ?_
        exact gl_iret (pc := 29) C dX0_firstOfGroup_29 ((sp_fog_at h17 h25 n hk hn40).symm) (rfl)
    · skip
      replace h17 := gl_bz.mp h17
      refine gl_goto (pc := 20) 33 C dX0_firstOfGroup_20 (by decide) ?_
      first | with_reducible refine gl_iincN_3 (pc := 33) gl_i1 C dX0_firstOfGroup_33 ?_ | refine gl_iinc_3 (pc := 33) C dX0_firstOfGroup_33 (gl_inc1 _) ?_
      refine gl_goto (pc := 36) 4 C dX0_firstOfGroup_36 (by decide) ?_
      exact gl_on (ih (by rw [sp_fog, if_neg]; exact hI; intro q; first | exact h17 q.1 | exact h25 q.2)) (gl_le_c (rfl) (gl_le_c (rfl) (gl_le_c (congrArg Value.int (by first | rw [sp_groups, if_pos h17] | rw [sp_groups, if_neg h17])) (gl_le_c (rfl) (gl_le_n))))) (rfl)
set_option maxRecDepth 100000 in
set_option maxHeartbeats 4000000 in
theorem ctX0_sizeOfGroup (F : gl_F) {n : Nat} (hn40 : n ≤ 40) {M : Nat → Int32} (hn : M 2 = nI n) (f : Nat) (hf : f < 40) : gl_Ct F LH yX0_sizeOfGroup wsX0_sizeOfGroup rmX0_sizeOfGroup [.ref (gl_r F 9), .int (nI f)] M (some (.int (sp_size M f n))) (M) := by
  refine gl_met (cc := cX0_sizeOfGroup) (maxL := 4) (ret := some .int) [some (.ref (gl_r F 9)), some (.int (nI f)), none, none] (plainFor_of_name (by decide)) rfl ok_LH (by simp [Value.category]) (Nat.le_of_ble_eq_true rfl) rfl (fun V hV C => ?_)
  subst hV
  refine gl_iconst (pc := 0) (nI 0) C dX0_sizeOfGroup_0 (by decide) ?_
  refine gl_istore_2 (pc := 1) C dX0_sizeOfGroup_1 ?_
  refine gl_iconst (pc := 2) (nI 0) C dX0_sizeOfGroup_2 (by decide) ?_
  refine gl_istore_3 (pc := 3) C dX0_sizeOfGroup_3 ?_
  refine gl_loop (pc := 4) (n := n) (fun k => [some (.ref (gl_r V.1 9)), some (.int (nI f)), some (.int (sp_size M f k)), some (.int (nI k))]) (fun k => M) (fun k => True) 0 (Nat.zero_le _) (trivial) (gl_le_c (rfl) (gl_le_c (rfl) (gl_le_c (rfl) (gl_le_c (rfl) (gl_le_n))))) (rfl) (fun hI => ?_) (fun k hk hI ih => ?_)
  · skip
    refine gl_iload_3 (pc := 4) C dX0_sizeOfGroup_4 ?_
    refine gl_aload_0 (pc := 5) C dX0_sizeOfGroup_5 ?_
    refine gl_getI (pc := 6) C dX0_sizeOfGroup_6 fX0_sizeOfGroup_36 rfl rfl ?_
    refine gl_top hn ?_
    refine gl_icmp_ge (pc := 9) 30 C dX0_sizeOfGroup_9 (by decide) (fun h9 => ?_) (fun h9 => absurd h9 (gl_xge))
    refine gl_iload_2 (pc := 30) C dX0_sizeOfGroup_30 ?_
    exact gl_iret (pc := 31) C dX0_sizeOfGroup_31 (rfl) (rfl)
  · skip
    refine gl_iload_3 (pc := 4) C dX0_sizeOfGroup_4 ?_
    refine gl_aload_0 (pc := 5) C dX0_sizeOfGroup_5 ?_
    refine gl_getI (pc := 6) C dX0_sizeOfGroup_6 fX0_sizeOfGroup_36 rfl rfl ?_
    refine gl_top hn ?_
    refine gl_icmp_ge (pc := 9) 30 C dX0_sizeOfGroup_9 (by decide) (fun h9 => absurd h9 (nI_ge hk (by omega))) (fun h9 => ?_)
    refine gl_aload_0 (pc := 12) C dX0_sizeOfGroup_12 ?_
    refine gl_iload_1 (pc := 13) C dX0_sizeOfGroup_13 ?_
    refine gl_iload_3 (pc := 14) C dX0_sizeOfGroup_14 ?_
    refine gl_callVi (pc := 15) (ctX0_sameGroup V.1 M f k hf (by omega)) C dX0_sizeOfGroup_15 gX0_sizeOfGroup_X0_sameGroup rfl hdX0_sameGroup ⟨rfl, rfl, Nat.le_of_ble_eq_true rfl, Nat.le_of_ble_eq_true rfl⟩ rfl (Nat.le_of_ble_eq_true rfl) rfl rfl rfl ?_
    refine gl_ifeq (pc := 18) 24 C dX0_sizeOfGroup_18 (by decide) (fun h18 => ?_) (fun h18 => ?_)
    · skip
      replace h18 := gl_bz.mp h18
      first | with_reducible refine gl_iincN_3 (pc := 24) gl_i1 C dX0_sizeOfGroup_24 ?_ | refine gl_iinc_3 (pc := 24) C dX0_sizeOfGroup_24 (gl_inc1 _) ?_
      refine gl_goto (pc := 27) 4 C dX0_sizeOfGroup_27 (by decide) ?_
      exact gl_on (ih (trivial)) (gl_le_c (rfl) (gl_le_c (rfl) (gl_le_c (congrArg Value.int (by first | rw [sp_size, if_pos h18] | rw [sp_size, if_neg h18])) (gl_le_c (rfl) (gl_le_n))))) (rfl)
    · skip
      replace h18 := gl_bn.mp h18
      first | with_reducible refine gl_iincN_2 (pc := 21) gl_i1 C dX0_sizeOfGroup_21 ?_ | refine gl_iinc_2 (pc := 21) C dX0_sizeOfGroup_21 (gl_inc1 _) ?_
      first | with_reducible refine gl_iincN_3 (pc := 24) gl_i1 C dX0_sizeOfGroup_24 ?_ | refine gl_iinc_3 (pc := 24) C dX0_sizeOfGroup_24 (gl_inc1 _) ?_
      refine gl_goto (pc := 27) 4 C dX0_sizeOfGroup_27 (by decide) ?_
      exact gl_on (ih (trivial)) (gl_le_c (rfl) (gl_le_c (rfl) (gl_le_c (congrArg Value.int (by first | rw [sp_size, if_pos h18] | rw [sp_size, if_neg h18])) (gl_le_c (rfl) (gl_le_n))))) (rfl)
set_option maxRecDepth 100000 in
set_option maxHeartbeats 4000000 in
theorem ctX0_waitOf (F : gl_F) (M : Nat → Int32) (k : Nat) (hk : k < 40) (tk : Int32) : gl_Ct F LH yX0_waitOf wsX0_waitOf rmX0_waitOf [.ref (gl_r F 9), .int (nI k), .int tk] M (some (.int (sp_wait M k tk))) (M) := by
  refine gl_met (cc := cX0_waitOf) (maxL := 4) (ret := some .int) [some (.ref (gl_r F 9)), some (.int (nI k)), some (.int tk), none] (plainFor_of_name (by decide)) rfl ok_LH (by simp [Value.category]) (Nat.le_of_ble_eq_true rfl) rfl (fun V hV C => ?_)
  subst hV
  refine gl_aload_0 (pc := 0) C dX0_waitOf_0 ?_
  refine gl_getR (pc := 1) C dX0_waitOf_1 fX0_waitOf_18 rfl rfl ?_
  refine gl_iload_1 (pc := 4) C dX0_waitOf_4 ?_
  refine gl_iald (pc := 5) _ C dX0_waitOf_5 rfl rfl (by omega) ?_
  refine gl_iconst (pc := 6) (nI 2) C dX0_waitOf_6 (by decide) ?_
  refine gl_icmp_eq (pc := 7) 20 C dX0_waitOf_7 (by decide) (fun h7 => ?_) (fun h7 => ?_)
  · skip
    refine gl_iconst (pc := 20) (nI 1) C dX0_waitOf_20 (by decide) ?_
    refine gl_goto (pc := 21) 25 C dX0_waitOf_21 (by decide) ?_
    refine gl_istore_3 (pc := 25) C dX0_waitOf_25 ?_
    refine gl_iload_3 (pc := 26) C dX0_waitOf_26 ?_
    refine gl_ifeq (pc := 27) 39 C dX0_waitOf_27 (by decide) (fun h27 => absurd h27 (by decide)) (fun h27 => ?_)
    refine gl_aload_0 (pc := 30) C dX0_waitOf_30 ?_
    refine gl_getR (pc := 31) C dX0_waitOf_31 fX0_waitOf_27 rfl rfl ?_
    refine gl_iload_1 (pc := 34) C dX0_waitOf_34 ?_
    refine gl_iald (pc := 35) _ C dX0_waitOf_35 rfl rfl (by omega) ?_
    refine gl_goto (pc := 36) 40 C dX0_waitOf_36 (by decide) ?_
    refine gl_aload_0 (pc := 40) C dX0_waitOf_40 ?_
    refine gl_getR (pc := 41) C dX0_waitOf_41 fX0_waitOf_24 rfl rfl ?_
    refine gl_iload_1 (pc := 44) C dX0_waitOf_44 ?_
    refine gl_iald (pc := 45) _ C dX0_waitOf_45 rfl rfl (by omega) ?_
    refine gl_isub (pc := 46) C dX0_waitOf_46 ?_
    exact gl_iret (pc := 47) C dX0_waitOf_47 (by simp [sp_wait, *]) (rfl)
  · skip
    refine gl_aload_0 (pc := 10) C dX0_waitOf_10 ?_
    refine gl_getR (pc := 11) C dX0_waitOf_11 fX0_waitOf_18 rfl rfl ?_
    refine gl_iload_1 (pc := 14) C dX0_waitOf_14 ?_
    refine gl_iald (pc := 15) _ C dX0_waitOf_15 rfl rfl (by omega) ?_
    refine gl_iconst (pc := 16) (nI 3) C dX0_waitOf_16 (by decide) ?_
    refine gl_icmp_ne (pc := 17) 24 C dX0_waitOf_17 (by decide) (fun h17 => ?_) (fun h17 => ?_)
    · skip
      refine gl_iconst (pc := 24) (nI 0) C dX0_waitOf_24 (by decide) ?_
      refine gl_istore_3 (pc := 25) C dX0_waitOf_25 ?_
      refine gl_iload_3 (pc := 26) C dX0_waitOf_26 ?_
      refine gl_ifeq (pc := 27) 39 C dX0_waitOf_27 (by decide) (fun h27 => ?_) (fun h27 => absurd h27 (not_not_intro nI_0'))
      refine gl_iload_2 (pc := 39) C dX0_waitOf_39 ?_
      refine gl_aload_0 (pc := 40) C dX0_waitOf_40 ?_
      refine gl_getR (pc := 41) C dX0_waitOf_41 fX0_waitOf_24 rfl rfl ?_
      refine gl_iload_1 (pc := 44) C dX0_waitOf_44 ?_
      refine gl_iald (pc := 45) _ C dX0_waitOf_45 rfl rfl (by omega) ?_
      refine gl_isub (pc := 46) C dX0_waitOf_46 ?_
      exact gl_iret (pc := 47) C dX0_waitOf_47 (by simp [sp_wait, *]) (rfl)
    · skip
      refine gl_iconst (pc := 20) (nI 1) C dX0_waitOf_20 (by decide) ?_
      refine gl_goto (pc := 21) 25 C dX0_waitOf_21 (by decide) ?_
      refine gl_istore_3 (pc := 25) C dX0_waitOf_25 ?_
      refine gl_iload_3 (pc := 26) C dX0_waitOf_26 ?_
      refine gl_ifeq (pc := 27) 39 C dX0_waitOf_27 (by decide) (fun h27 => absurd h27 (by decide)) (fun h27 => ?_)
      refine gl_aload_0 (pc := 30) C dX0_waitOf_30 ?_
      refine gl_getR (pc := 31) C dX0_waitOf_31 fX0_waitOf_27 rfl rfl ?_
      refine gl_iload_1 (pc := 34) C dX0_waitOf_34 ?_
      refine gl_iald (pc := 35) _ C dX0_waitOf_35 rfl rfl (by omega) ?_
      refine gl_goto (pc := 36) 40 C dX0_waitOf_36 (by decide) ?_
      refine gl_aload_0 (pc := 40) C dX0_waitOf_40 ?_
      refine gl_getR (pc := 41) C dX0_waitOf_41 fX0_waitOf_24 rfl rfl ?_
      refine gl_iload_1 (pc := 44) C dX0_waitOf_44 ?_
      refine gl_iald (pc := 45) _ C dX0_waitOf_45 rfl rfl (by omega) ?_
      refine gl_isub (pc := 46) C dX0_waitOf_46 ?_
      exact gl_iret (pc := 47) C dX0_waitOf_47 (by simp [sp_wait, *]) (rfl)
set_option maxRecDepth 100000 in
set_option maxHeartbeats 4000000 in
theorem ctX0_aimOf (F : gl_F) {n : Nat} (hn40 : n ≤ 40) {M : Nat → Int32} (hn : M 2 = nI n) (hg : ∀ k, k < n → sp_fl (M (iK k 1))) (c : Int32) {fl : Int32} (hf : sp_fl fl) : gl_Ct F LH yX0_aimOf wsX0_aimOf rmX0_aimOf [.ref (gl_r F 9), .int c, .int fl] M (some (.int (sp_aim M c fl n))) (M) := by
  refine gl_met (cc := cX0_aimOf) (maxL := 6) (ret := some .int) [some (.ref (gl_r F 9)), some (.int c), some (.int fl), none, none, none] (plainFor_of_name (by decide)) rfl ok_LH (by simp [Value.category]) (Nat.le_of_ble_eq_true rfl) rfl (fun V hV C => ?_)
  subst hV
  refine gl_bipush (pc := 0) (-9) C dX0_aimOf_0 (by decide +kernel) ?_
  refine gl_istore_3 (pc := 2) C dX0_aimOf_2 ?_
  refine gl_bipush (pc := 3) (-9) C dX0_aimOf_3 (by decide +kernel) ?_
  refine gl_istore_4 (pc := 5) C dX0_aimOf_5 ?_
  refine gl_iconst (pc := 7) (nI 0) C dX0_aimOf_7 (by decide) ?_
  refine gl_istore_5 (pc := 8) C dX0_aimOf_8 ?_
  refine gl_loop (pc := 10) (n := n) (fun k => [some (.ref (gl_r V.1 9)), some (.int c), some (.int fl), some (.int (sp_aims M c fl k).1), some (.int (sp_aims M c fl k).2), some (.int (nI k))]) (fun k => M) (fun k => True) 0 (Nat.zero_le _) (trivial) (gl_le_c (rfl) (gl_le_c (rfl) (gl_le_c (rfl) (gl_le_c (rfl) (gl_le_c (rfl) (gl_le_c (rfl) (gl_le_n))))))) (rfl) (fun hI => ?_) (fun k hk hI ih => ?_)
  · skip
    refine gl_iload_5 (pc := 10) C dX0_aimOf_10 ?_
    refine gl_aload_0 (pc := 12) C dX0_aimOf_12 ?_
    refine gl_getI (pc := 13) C dX0_aimOf_13 fX0_aimOf_36 rfl rfl ?_
    refine gl_top hn ?_
    refine gl_icmp_ge (pc := 16) 93 C dX0_aimOf_16 (by decide) (fun h16 => ?_) (fun h16 => absurd h16 (gl_xge))
    refine gl_iload_3 (pc := 93) C dX0_aimOf_93 ?_
    refine gl_bipush (pc := 94) (-9) C dX0_aimOf_94 (by decide +kernel) ?_
    refine gl_icmp_eq (pc := 96) 103 C dX0_aimOf_96 (by decide) (fun h96 => ?_) (fun h96 => ?_)
    · skip
      refine gl_iload_4 (pc := 103) C dX0_aimOf_103 ?_
      exact gl_iret (pc := 105) C dX0_aimOf_105 (by simp [sp_aim, *]) (rfl)
    · skip
      refine gl_iload_3 (pc := 99) C dX0_aimOf_99 ?_
      refine gl_goto (pc := 100) 105 C dX0_aimOf_100 (by decide) ?_
      exact gl_iret (pc := 105) C dX0_aimOf_105 (by simp [sp_aim, *]) (rfl)
  · skip
    refine gl_iload_5 (pc := 10) C dX0_aimOf_10 ?_
    refine gl_aload_0 (pc := 12) C dX0_aimOf_12 ?_
    refine gl_getI (pc := 13) C dX0_aimOf_13 fX0_aimOf_36 rfl rfl ?_
    refine gl_top hn ?_
    refine gl_icmp_ge (pc := 16) 93 C dX0_aimOf_16 (by decide) (fun h16 => absurd h16 (nI_ge hk (by omega))) (fun h16 => ?_)
    refine gl_aload_0 (pc := 19) C dX0_aimOf_19 ?_
    refine gl_iload_5 (pc := 20) C dX0_aimOf_20 ?_
    refine gl_iload_1 (pc := 22) C dX0_aimOf_22 ?_
    refine gl_callVi (pc := 23) (ctX0_rides V.1 M k (by omega) c) C dX0_aimOf_23 gX0_aimOf_X0_rides rfl hdX0_rides ⟨rfl, rfl, Nat.le_of_ble_eq_true rfl, Nat.le_of_ble_eq_true rfl⟩ rfl (Nat.le_of_ble_eq_true rfl) rfl rfl rfl ?_
    refine gl_ifeq (pc := 26) 61 C dX0_aimOf_26 (by decide) (fun h26 => ?_) (fun h26 => ?_)
    · skip
      replace h26 := gl_bz.mp h26
      refine gl_iload_4 (pc := 61) C dX0_aimOf_61 ?_
      refine gl_bipush (pc := 63) (-9) C dX0_aimOf_63 (by decide +kernel) ?_
      refine gl_icmp_ne (pc := 65) 87 C dX0_aimOf_65 (by decide) (fun h65 => ?_) (fun h65 => ?_)
      · skip
        first | with_reducible refine gl_iincN_5 (pc := 87) gl_i1 C dX0_aimOf_87 ?_ | refine gl_iinc_5 (pc := 87) C dX0_aimOf_87 (gl_inc1 _) ?_
        refine gl_goto (pc := 90) 10 C dX0_aimOf_90 (by decide) ?_
        exact gl_on (ih (trivial)) (gl_le_c (rfl) (gl_le_c (rfl) (gl_le_c (rfl) (gl_le_c (congrArg Value.int (by grind [sp_aims])) (gl_le_c (congrArg Value.int (by grind [sp_aims])) (gl_le_c (rfl) (gl_le_n))))))) (rfl)
      · skip
        refine gl_aload_0 (pc := 68) C dX0_aimOf_68 ?_
        refine gl_iload_5 (pc := 69) C dX0_aimOf_69 ?_
        refine gl_iload_1 (pc := 71) C dX0_aimOf_71 ?_
        refine gl_callVi (pc := 72) (ctX0_waitsFor V.1 M k (by omega) c) C dX0_aimOf_72 gX0_aimOf_X0_waitsFor rfl hdX0_waitsFor ⟨rfl, rfl, Nat.le_of_ble_eq_true rfl, Nat.le_of_ble_eq_true rfl⟩ rfl (Nat.le_of_ble_eq_true rfl) rfl rfl rfl ?_
        refine gl_ifeq (pc := 75) 87 C dX0_aimOf_75 (by decide) (fun h75 => ?_) (fun h75 => ?_)
        · skip
          replace h75 := gl_bz.mp h75
          first | with_reducible refine gl_iincN_5 (pc := 87) gl_i1 C dX0_aimOf_87 ?_ | refine gl_iinc_5 (pc := 87) C dX0_aimOf_87 (gl_inc1 _) ?_
          refine gl_goto (pc := 90) 10 C dX0_aimOf_90 (by decide) ?_
          exact gl_on (ih (trivial)) (gl_le_c (rfl) (gl_le_c (rfl) (gl_le_c (rfl) (gl_le_c (congrArg Value.int (by grind [sp_aims])) (gl_le_c (congrArg Value.int (by grind [sp_aims])) (gl_le_c (rfl) (gl_le_n))))))) (rfl)
        · skip
          replace h75 := gl_bn.mp h75
          refine gl_aload_0 (pc := 78) C dX0_aimOf_78 ?_
          refine gl_getR (pc := 79) C dX0_aimOf_79 fX0_aimOf_9 rfl rfl ?_
          refine gl_iload_5 (pc := 82) C dX0_aimOf_82 ?_
          refine gl_iald (pc := 84) _ C dX0_aimOf_84 rfl rfl (by omega) ?_
          refine gl_istore_4 (pc := 85) C dX0_aimOf_85 ?_
          first | with_reducible refine gl_iincN_5 (pc := 87) gl_i1 C dX0_aimOf_87 ?_ | refine gl_iinc_5 (pc := 87) C dX0_aimOf_87 (gl_inc1 _) ?_
          refine gl_goto (pc := 90) 10 C dX0_aimOf_90 (by decide) ?_
          exact gl_on (ih (trivial)) (gl_le_c (rfl) (gl_le_c (rfl) (gl_le_c (rfl) (gl_le_c (congrArg Value.int (by grind [sp_aims])) (gl_le_c (congrArg Value.int (by grind [sp_aims])) (gl_le_c (rfl) (gl_le_n))))))) (rfl)
    · skip
      replace h26 := gl_bn.mp h26
      refine gl_iload_3 (pc := 29) C dX0_aimOf_29 ?_
      refine gl_bipush (pc := 30) (-9) C dX0_aimOf_30 (by decide +kernel) ?_
      refine gl_icmp_eq (pc := 32) 50 C dX0_aimOf_32 (by decide) (fun h32 => ?_) (fun h32 => ?_)
      · skip
        refine gl_aload_0 (pc := 50) C dX0_aimOf_50 ?_
        refine gl_getR (pc := 51) C dX0_aimOf_51 fX0_aimOf_15 rfl rfl ?_
        refine gl_iload_5 (pc := 54) C dX0_aimOf_54 ?_
        refine gl_iald (pc := 56) _ C dX0_aimOf_56 rfl rfl (by omega) ?_
        refine gl_istore_3 (pc := 57) C dX0_aimOf_57 ?_
        refine gl_goto (pc := 58) 87 C dX0_aimOf_58 (by decide) ?_
        first | with_reducible refine gl_iincN_5 (pc := 87) gl_i1 C dX0_aimOf_87 ?_ | refine gl_iinc_5 (pc := 87) C dX0_aimOf_87 (gl_inc1 _) ?_
        refine gl_goto (pc := 90) 10 C dX0_aimOf_90 (by decide) ?_
        exact gl_on (ih (trivial)) (gl_le_c (rfl) (gl_le_c (rfl) (gl_le_c (rfl) (gl_le_c (congrArg Value.int (by grind [sp_aims])) (gl_le_c (congrArg Value.int (by grind [sp_aims])) (gl_le_c (rfl) (gl_le_n))))))) (rfl)
      · skip
        refine gl_aload_0 (pc := 35) C dX0_aimOf_35 ?_
        refine gl_getR (pc := 36) C dX0_aimOf_36 fX0_aimOf_15 rfl rfl ?_
        refine gl_iload_5 (pc := 39) C dX0_aimOf_39 ?_
        refine gl_iald (pc := 41) _ C dX0_aimOf_41 rfl rfl (by omega) ?_
        refine gl_iload_3 (pc := 42) C dX0_aimOf_42 ?_
        refine gl_iload_2 (pc := 43) C dX0_aimOf_43 ?_
        refine gl_callSi (pc := 44) (ctX0_isNearer V.1 M (hg k hk) ((sp_aims_ok hg k (by omega)).resolve_left h32) hf) C dX0_aimOf_44 gX0_aimOf_X0_isNearer rfl hdX0_isNearer ⟨rfl, rfl, Nat.le_of_ble_eq_true rfl, Nat.le_of_ble_eq_true rfl⟩ rfl (Nat.le_of_ble_eq_true rfl) rfl ?_
        refine gl_ifeq (pc := 47) 87 C dX0_aimOf_47 (by decide) (fun h47 => ?_) (fun h47 => ?_)
        · skip
          replace h47 := gl_bz.mp h47
          first | with_reducible refine gl_iincN_5 (pc := 87) gl_i1 C dX0_aimOf_87 ?_ | refine gl_iinc_5 (pc := 87) C dX0_aimOf_87 (gl_inc1 _) ?_
          refine gl_goto (pc := 90) 10 C dX0_aimOf_90 (by decide) ?_
          exact gl_on (ih (trivial)) (gl_le_c (rfl) (gl_le_c (rfl) (gl_le_c (rfl) (gl_le_c (congrArg Value.int (by grind [sp_aims])) (gl_le_c (congrArg Value.int (by grind [sp_aims])) (gl_le_c (rfl) (gl_le_n))))))) (rfl)
        · skip
          replace h47 := gl_bn.mp h47
          refine gl_aload_0 (pc := 50) C dX0_aimOf_50 ?_
          refine gl_getR (pc := 51) C dX0_aimOf_51 fX0_aimOf_15 rfl rfl ?_
          refine gl_iload_5 (pc := 54) C dX0_aimOf_54 ?_
          refine gl_iald (pc := 56) _ C dX0_aimOf_56 rfl rfl (by omega) ?_
          refine gl_istore_3 (pc := 57) C dX0_aimOf_57 ?_
          refine gl_goto (pc := 58) 87 C dX0_aimOf_58 (by decide) ?_
          first | with_reducible refine gl_iincN_5 (pc := 87) gl_i1 C dX0_aimOf_87 ?_ | refine gl_iinc_5 (pc := 87) C dX0_aimOf_87 (gl_inc1 _) ?_
          refine gl_goto (pc := 90) 10 C dX0_aimOf_90 (by decide) ?_
          exact gl_on (ih (trivial)) (gl_le_c (rfl) (gl_le_c (rfl) (gl_le_c (rfl) (gl_le_c (congrArg Value.int (by grind [sp_aims])) (gl_le_c (congrArg Value.int (by grind [sp_aims])) (gl_le_c (rfl) (gl_le_n))))))) (rfl)
set_option maxRecDepth 100000 in
set_option maxHeartbeats 4000000 in
theorem ctX1_has (F : gl_F) (M : Nat → Int32) (x : Int32) : gl_Ct F LH yX1_has wsX1_has rmX1_has [.ref (gl_r F 2), .int x] M (some (.int (if sp_has x (M 1) then nI 1 else nI 0))) (M) := by
  refine gl_met (cc := cX1_has) (maxL := 2) (ret := some .boolean) [some (.ref (gl_r F 2)), some (.int x)] (plainFor_of_name (by decide)) rfl ok_LH (by simp [Value.category]) (Nat.le_of_ble_eq_true rfl) rfl (fun V hV C => ?_)
  subst hV
  refine gl_iload_1 (pc := 0) C dX1_has_0 ?_
  refine gl_iflt (pc := 1) 16 C dX1_has_1 (by decide) (fun h1 => ?_) (fun h1 => ?_)
  · skip
    refine gl_iconst (pc := 16) (nI 0) C dX1_has_16 (by decide) ?_
    exact gl_zret (pc := 17) C dX1_has_17 (by rfl) (by simp [*]) (rfl)
  · skip
    refine gl_iload_1 (pc := 4) C dX1_has_4 ?_
    refine gl_aload_0 (pc := 5) C dX1_has_5 ?_
    refine gl_getI (pc := 6) C dX1_has_6 fX1_has_30 rfl rfl ?_
    refine gl_icmp_ge (pc := 9) 16 C dX1_has_9 (by decide) (fun h9 => ?_) (fun h9 => ?_)
    · skip
      refine gl_iconst (pc := 16) (nI 0) C dX1_has_16 (by decide) ?_
      exact gl_zret (pc := 17) C dX1_has_17 (by rfl) (by simp [*]) (rfl)
    · skip
      refine gl_iconst (pc := 12) (nI 1) C dX1_has_12 (by decide) ?_
      refine gl_goto (pc := 13) 17 C dX1_has_13 (by decide) ?_
      exact gl_zret (pc := 17) C dX1_has_17 (by rfl) (by simp [*]) (rfl)
set_option maxRecDepth 100000 in
set_option maxHeartbeats 4000000 in
theorem ctX1_serves (F : gl_F) (M : Nat → Int32) (c : Nat) (hc : c < 5) (x : Int32) : gl_Ct F LH yX1_serves wsX1_serves rmX1_serves [.ref (gl_r F 2), .int (nI c), .int x] M (some (.int (if sp_serves M c x then nI 1 else nI 0))) (M) := by
  refine gl_met (cc := cX1_serves) (maxL := 3) (ret := some .boolean) [some (.ref (gl_r F 2)), some (.int (nI c)), some (.int x)] (plainFor_of_name (by decide)) rfl ok_LH (by simp [Value.category]) (Nat.le_of_ble_eq_true rfl) rfl (fun V hV C => ?_)
  subst hV
  refine gl_iload_2 (pc := 0) C dX1_serves_0 ?_
  refine gl_aload_0 (pc := 1) C dX1_serves_1 ?_
  refine gl_getR (pc := 2) C dX1_serves_2 fX1_serves_9 rfl rfl ?_
  refine gl_iload_1 (pc := 5) C dX1_serves_5 ?_
  refine gl_iald (pc := 6) _ C dX1_serves_6 rfl rfl (by omega) ?_
  refine gl_icmp_lt (pc := 7) 24 C dX1_serves_7 (by decide) (fun h7 => ?_) (fun h7 => ?_)
  · skip
    refine gl_iconst (pc := 24) (nI 0) C dX1_serves_24 (by decide) ?_
    exact gl_zret (pc := 25) C dX1_serves_25 (by rfl) (by simp only [sp_serves]; simp [*]) (rfl)
  · skip
    refine gl_iload_2 (pc := 10) C dX1_serves_10 ?_
    refine gl_aload_0 (pc := 11) C dX1_serves_11 ?_
    refine gl_getR (pc := 12) C dX1_serves_12 fX1_serves_15 rfl rfl ?_
    refine gl_iload_1 (pc := 15) C dX1_serves_15 ?_
    refine gl_iald (pc := 16) _ C dX1_serves_16 rfl rfl (by omega) ?_
    refine gl_icmp_gt (pc := 17) 24 C dX1_serves_17 (by decide) (fun h17 => ?_) (fun h17 => ?_)
    · skip
      refine gl_iconst (pc := 24) (nI 0) C dX1_serves_24 (by decide) ?_
      exact gl_zret (pc := 25) C dX1_serves_25 (by rfl) (by simp only [sp_serves]; simp [*]) (rfl)
    · skip
      refine gl_iconst (pc := 20) (nI 1) C dX1_serves_20 (by decide) ?_
      refine gl_goto (pc := 21) 25 C dX1_serves_21 (by decide) ?_
      exact gl_zret (pc := 25) C dX1_serves_25 (by rfl) (by simp only [sp_serves]; simp [*]) (rfl)
set_option maxRecDepth 100000 in
set_option maxHeartbeats 4000000 in
theorem ctX1_numberIn (F : gl_F) {m : Nat} (hm5 : m ≤ 5) {M : Nat → Int32} (hm : M 1 = nI m) (is : Int32) : gl_Ct F LH yX1_numberIn wsX1_numberIn rmX1_numberIn [.ref (gl_r F 2), .int is] M (some (.int (sp_cst M is m))) (M) := by
  refine gl_met (cc := cX1_numberIn) (maxL := 4) (ret := some .int) [some (.ref (gl_r F 2)), some (.int is), none, none] (plainFor_of_name (by decide)) rfl ok_LH (by simp [Value.category]) (Nat.le_of_ble_eq_true rfl) rfl (fun V hV C => ?_)
  subst hV
  refine gl_iconst (pc := 0) (nI 0) C dX1_numberIn_0 (by decide) ?_
  refine gl_istore_2 (pc := 1) C dX1_numberIn_1 ?_
  refine gl_iconst (pc := 2) (nI 0) C dX1_numberIn_2 (by decide) ?_
  refine gl_istore_3 (pc := 3) C dX1_numberIn_3 ?_
  refine gl_loop (pc := 4) (n := m) (fun c => [some (.ref (gl_r V.1 2)), some (.int is), some (.int (sp_cst M is c)), some (.int (nI c))]) (fun c => M) (fun c => True) 0 (Nat.zero_le _) (trivial) (gl_le_c (rfl) (gl_le_c (rfl) (gl_le_c (rfl) (gl_le_c (rfl) (gl_le_n))))) (rfl) (fun hI => ?_) (fun c hc hI ih => ?_)
  · skip
    refine gl_iload_3 (pc := 4) C dX1_numberIn_4 ?_
    refine gl_aload_0 (pc := 5) C dX1_numberIn_5 ?_
    refine gl_getI (pc := 6) C dX1_numberIn_6 fX1_numberIn_30 rfl rfl ?_
    refine gl_top hm ?_
    refine gl_icmp_ge (pc := 9) 31 C dX1_numberIn_9 (by decide) (fun h9 => ?_) (fun h9 => absurd h9 (gl_xge))
    refine gl_iload_2 (pc := 31) C dX1_numberIn_31 ?_
    exact gl_iret (pc := 32) C dX1_numberIn_32 (rfl) (rfl)
  · skip
    refine gl_iload_3 (pc := 4) C dX1_numberIn_4 ?_
    refine gl_aload_0 (pc := 5) C dX1_numberIn_5 ?_
    refine gl_getI (pc := 6) C dX1_numberIn_6 fX1_numberIn_30 rfl rfl ?_
    refine gl_top hm ?_
    refine gl_icmp_ge (pc := 9) 31 C dX1_numberIn_9 (by decide) (fun h9 => absurd h9 (nI_ge hc (by omega))) (fun h9 => ?_)
    refine gl_aload_0 (pc := 12) C dX1_numberIn_12 ?_
    refine gl_getR (pc := 13) C dX1_numberIn_13 fX1_numberIn_24 rfl rfl ?_
    refine gl_iload_3 (pc := 16) C dX1_numberIn_16 ?_
    refine gl_iald (pc := 17) _ C dX1_numberIn_17 rfl rfl (by omega) ?_
    refine gl_iload_1 (pc := 18) C dX1_numberIn_18 ?_
    refine gl_icmp_ne (pc := 19) 25 C dX1_numberIn_19 (by decide) (fun h19 => ?_) (fun h19 => ?_)
    · skip
      first | with_reducible refine gl_iincN_3 (pc := 25) gl_i1 C dX1_numberIn_25 ?_ | refine gl_iinc_3 (pc := 25) C dX1_numberIn_25 (gl_inc1 _) ?_
      refine gl_goto (pc := 28) 4 C dX1_numberIn_28 (by decide) ?_
      exact gl_on (ih (trivial)) (gl_le_c (rfl) (gl_le_c (rfl) (gl_le_c (congrArg Value.int (by simp [sp_cst, *])) (gl_le_c (rfl) (gl_le_n))))) (rfl)
    · skip
      first | with_reducible refine gl_iincN_2 (pc := 22) gl_i1 C dX1_numberIn_22 ?_ | refine gl_iinc_2 (pc := 22) C dX1_numberIn_22 (gl_inc1 _) ?_
      first | with_reducible refine gl_iincN_3 (pc := 25) gl_i1 C dX1_numberIn_25 ?_ | refine gl_iinc_3 (pc := 25) C dX1_numberIn_25 (gl_inc1 _) ?_
      refine gl_goto (pc := 28) 4 C dX1_numberIn_28 (by decide) ?_
      exact gl_on (ih (trivial)) (gl_le_c (rfl) (gl_le_c (rfl) (gl_le_c (congrArg Value.int (by simp [sp_cst, *])) (gl_le_c (rfl) (gl_le_n))))) (rfl)
set_option maxRecDepth 100000 in
set_option maxHeartbeats 4000000 in
theorem ctX1_travelledByAll (F : gl_F) {m : Nat} (hm5 : m ≤ 5) {M : Nat → Int32} (hm : M 1 = nI m) : gl_Ct F LH yX1_travelledByAll wsX1_travelledByAll rmX1_travelledByAll [.ref (gl_r F 2)] M (some (.int (sp_went M m))) (M) := by
  refine gl_met (cc := cX1_travelledByAll) (maxL := 3) (ret := some .int) [some (.ref (gl_r F 2)), none, none] (plainFor_of_name (by decide)) rfl ok_LH (by simp [Value.category]) (Nat.le_of_ble_eq_true rfl) rfl (fun V hV C => ?_)
  subst hV
  refine gl_iconst (pc := 0) (nI 0) C dX1_travelledByAll_0 (by decide) ?_
  refine gl_istore_1 (pc := 1) C dX1_travelledByAll_1 ?_
  refine gl_iconst (pc := 2) (nI 0) C dX1_travelledByAll_2 (by decide) ?_
  refine gl_istore_2 (pc := 3) C dX1_travelledByAll_3 ?_
  refine gl_loop (pc := 4) (n := m) (fun c => [some (.ref (gl_r V.1 2)), some (.int (sp_went M c)), some (.int (nI c))]) (fun c => M) (fun c => True) 0 (Nat.zero_le _) (trivial) (gl_le_c (rfl) (gl_le_c (rfl) (gl_le_c (rfl) (gl_le_n)))) (rfl) (fun hI => ?_) (fun c hc hI ih => ?_)
  · skip
    refine gl_iload_2 (pc := 4) C dX1_travelledByAll_4 ?_
    refine gl_aload_0 (pc := 5) C dX1_travelledByAll_5 ?_
    refine gl_getI (pc := 6) C dX1_travelledByAll_6 fX1_travelledByAll_30 rfl rfl ?_
    refine gl_top hm ?_
    refine gl_icmp_ge (pc := 9) 27 C dX1_travelledByAll_9 (by decide) (fun h9 => ?_) (fun h9 => absurd h9 (gl_xge))
    refine gl_iload_1 (pc := 27) C dX1_travelledByAll_27 ?_
    exact gl_iret (pc := 28) C dX1_travelledByAll_28 (rfl) (rfl)
  · skip
    refine gl_iload_2 (pc := 4) C dX1_travelledByAll_4 ?_
    refine gl_aload_0 (pc := 5) C dX1_travelledByAll_5 ?_
    refine gl_getI (pc := 6) C dX1_travelledByAll_6 fX1_travelledByAll_30 rfl rfl ?_
    refine gl_top hm ?_
    refine gl_icmp_ge (pc := 9) 27 C dX1_travelledByAll_9 (by decide) (fun h9 => absurd h9 (nI_ge hc (by omega))) (fun h9 => ?_)
    refine gl_iload_1 (pc := 12) C dX1_travelledByAll_12 ?_
    refine gl_aload_0 (pc := 13) C dX1_travelledByAll_13 ?_
    refine gl_getR (pc := 14) C dX1_travelledByAll_14 fX1_travelledByAll_27 rfl rfl ?_
    refine gl_iload_2 (pc := 17) C dX1_travelledByAll_17 ?_
    refine gl_iald (pc := 18) _ C dX1_travelledByAll_18 rfl rfl (by omega) ?_
    first | with_reducible refine gl_iaddN (pc := 19) C dX1_travelledByAll_19 ?_ | refine gl_iadd (pc := 19) C dX1_travelledByAll_19 ?_
    refine gl_istore_1 (pc := 20) C dX1_travelledByAll_20 ?_
    first | with_reducible refine gl_iincN_2 (pc := 21) gl_i1 C dX1_travelledByAll_21 ?_ | refine gl_iinc_2 (pc := 21) C dX1_travelledByAll_21 (gl_inc1 _) ?_
    refine gl_goto (pc := 24) 4 C dX1_travelledByAll_24 (by decide) ?_
    exact gl_on (ih (trivial)) (gl_le_c (rfl) (gl_le_c (rfl) (gl_le_c (rfl) (gl_le_n)))) (rfl)
set_option maxRecDepth 100000 in
set_option maxHeartbeats 4000000 in
theorem ctJ9_floorMod (F : gl_F) (lay : List gl_Ce) (hok : gl_ok lay) (M : Nat → Int32) {a b : Nat} (ha : a < 2 ^ 31) (hb0 : 0 < b) (hb : b < 2 ^ 31) : gl_Ct F lay yJ9_floorMod_7cf53 wsJ9_floorMod_7cf53 rmJ9_floorMod_7cf53 [.int (nI a), .int (nI b)] M (some (.int (nI (a % b)))) (M) := by
  refine gl_met (cc := cJ9_floorMod_7cf53) (maxL := 3) (ret := some .int) [some (.int (nI a)), some (.int (nI b)), none] (by decide +kernel) rfl hok (by simp [Value.category]) (Nat.le_of_ble_eq_true rfl) rfl (fun V hV C => ?_)
  subst hV
  refine gl_iload_0 (pc := 0) C dJ9_floorMod_7cf53_0 ?_
  refine gl_iload_1 (pc := 1) C dJ9_floorMod_7cf53_1 ?_
  refine gl_irem (pc := 2) C dJ9_floorMod_7cf53_2 (nI_ne0 hb0 hb) ?_
  refine gl_top (pk_rem ha hb0 hb) ?_
  refine gl_istore_2 (pc := 3) C dJ9_floorMod_7cf53_3 ?_
  refine gl_iload_0 (pc := 4) C dJ9_floorMod_7cf53_4 ?_
  refine gl_iload_1 (pc := 5) C dJ9_floorMod_7cf53_5 ?_
  refine gl_ixor (pc := 6) C dJ9_floorMod_7cf53_6 ?_
  refine gl_ifge (pc := 7) 18 C dJ9_floorMod_7cf53_7 (by decide) (fun h7 => ?_) (fun h7 => absurd h7 (not_not_intro (by rw [nx_xor]; exact nI_pos' (Nat.xor_lt_two_pow ha hb))))
  refine gl_iload_2 (pc := 18) C dJ9_floorMod_7cf53_18 ?_
  exact gl_iret (pc := 19) C dJ9_floorMod_7cf53_19 (rfl) (rfl)
set_option maxRecDepth 100000 in
set_option maxHeartbeats 4000000 in
theorem ctJ9_floorMod_m1 (F : gl_F) (lay : List gl_Ce) (hok : gl_ok lay) (M : Nat → Int32) : gl_Ct F lay yJ9_floorMod_7cf53 wsJ9_floorMod_7cf53 rmJ9_floorMod_7cf53 [.int (-1), .int (nI 5)] M (some (.int (nI 4))) (M) := by
  refine gl_met (cc := cJ9_floorMod_7cf53) (maxL := 3) (ret := some .int) [some (.int (-1)), some (.int (nI 5)), none] (by decide +kernel) rfl hok (by simp [Value.category]) (Nat.le_of_ble_eq_true rfl) rfl (fun V hV C => ?_)
  subst hV
  refine gl_iload_0 (pc := 0) C dJ9_floorMod_7cf53_0 ?_
  refine gl_iload_1 (pc := 1) C dJ9_floorMod_7cf53_1 ?_
  refine gl_irem (pc := 2) C dJ9_floorMod_7cf53_2 (by decide) ?_
  refine gl_top (y := -1) (by decide +kernel) ?_
  refine gl_istore_2 (pc := 3) C dJ9_floorMod_7cf53_3 ?_
  refine gl_iload_0 (pc := 4) C dJ9_floorMod_7cf53_4 ?_
  refine gl_iload_1 (pc := 5) C dJ9_floorMod_7cf53_5 ?_
  refine gl_ixor (pc := 6) C dJ9_floorMod_7cf53_6 ?_
  refine gl_ifge (pc := 7) 18 C dJ9_floorMod_7cf53_7 (by decide) (fun h7 => absurd h7 (by decide +kernel)) (fun h7 => ?_)
  refine gl_iload_2 (pc := 10) C dJ9_floorMod_7cf53_10 ?_
  refine gl_ifeq (pc := 11) 18 C dJ9_floorMod_7cf53_11 (by decide) (fun h11 => absurd h11 (by decide +kernel)) (fun h11 => ?_)
  refine gl_iload_2 (pc := 14) C dJ9_floorMod_7cf53_14 ?_
  refine gl_iload_1 (pc := 15) C dJ9_floorMod_7cf53_15 ?_
  first | with_reducible refine gl_iaddN (pc := 16) C dJ9_floorMod_7cf53_16 ?_ | refine gl_iadd (pc := 16) C dJ9_floorMod_7cf53_16 ?_
  exact gl_iret (pc := 17) C dJ9_floorMod_7cf53_17 (by decide +kernel) (rfl)
set_option maxRecDepth 100000 in
set_option maxHeartbeats 4000000 in
theorem ctJ6_bitCount (F : gl_F) (lay : List gl_Ce) (hok : gl_ok lay) (M : Nat → Int32) {x : Int32} (h : sp_b16 x) : gl_Ct F lay yJ6_bitCount_0f7a4 wsJ6_bitCount_0f7a4 rmJ6_bitCount_0f7a4 [.int x] M (some (.int (sp_pop x))) (M) := by
  refine gl_met (cc := cJ6_bitCount_0f7a4) (maxL := 1) (ret := some .int) [some (.int x)] (by decide +kernel) rfl hok (by simp [Value.category]) (Nat.le_of_ble_eq_true rfl) rfl (fun V hV C => ?_)
  subst hV
  refine gl_iload_0 (pc := 0) C dJ6_bitCount_0f7a4_0 ?_
  refine gl_iload_0 (pc := 1) C dJ6_bitCount_0f7a4_1 ?_
  refine gl_iconst (pc := 2) (nI 1) C dJ6_bitCount_0f7a4_2 (by decide) ?_
  refine gl_iushr (pc := 3) C dJ6_bitCount_0f7a4_3 ?_
  refine gl_ldcw (pc := 4) (1431655765) C dJ6_bitCount_0f7a4_4 (by decide +kernel) ?_
  refine gl_iand (pc := 7) C dJ6_bitCount_0f7a4_7 ?_
  refine gl_isub (pc := 8) C dJ6_bitCount_0f7a4_8 ?_
  refine gl_istore_0 (pc := 9) C dJ6_bitCount_0f7a4_9 ?_
  refine gl_iload_0 (pc := 10) C dJ6_bitCount_0f7a4_10 ?_
  refine gl_ldcw (pc := 11) (858993459) C dJ6_bitCount_0f7a4_11 (by decide +kernel) ?_
  refine gl_iand (pc := 14) C dJ6_bitCount_0f7a4_14 ?_
  refine gl_iload_0 (pc := 15) C dJ6_bitCount_0f7a4_15 ?_
  refine gl_iconst (pc := 16) (nI 2) C dJ6_bitCount_0f7a4_16 (by decide) ?_
  refine gl_iushr (pc := 17) C dJ6_bitCount_0f7a4_17 ?_
  refine gl_ldcw (pc := 18) (858993459) C dJ6_bitCount_0f7a4_18 (by decide +kernel) ?_
  refine gl_iand (pc := 21) C dJ6_bitCount_0f7a4_21 ?_
  first | with_reducible refine gl_iaddN (pc := 22) C dJ6_bitCount_0f7a4_22 ?_ | refine gl_iadd (pc := 22) C dJ6_bitCount_0f7a4_22 ?_
  refine gl_istore_0 (pc := 23) C dJ6_bitCount_0f7a4_23 ?_
  refine gl_iload_0 (pc := 24) C dJ6_bitCount_0f7a4_24 ?_
  refine gl_iload_0 (pc := 25) C dJ6_bitCount_0f7a4_25 ?_
  refine gl_iconst (pc := 26) (nI 4) C dJ6_bitCount_0f7a4_26 (by decide) ?_
  refine gl_iushr (pc := 27) C dJ6_bitCount_0f7a4_27 ?_
  first | with_reducible refine gl_iaddN (pc := 28) C dJ6_bitCount_0f7a4_28 ?_ | refine gl_iadd (pc := 28) C dJ6_bitCount_0f7a4_28 ?_
  refine gl_ldcw (pc := 29) (252645135) C dJ6_bitCount_0f7a4_29 (by decide +kernel) ?_
  refine gl_iand (pc := 32) C dJ6_bitCount_0f7a4_32 ?_
  refine gl_istore_0 (pc := 33) C dJ6_bitCount_0f7a4_33 ?_
  refine gl_iload_0 (pc := 34) C dJ6_bitCount_0f7a4_34 ?_
  refine gl_iload_0 (pc := 35) C dJ6_bitCount_0f7a4_35 ?_
  refine gl_bipush (pc := 36) (nI 8) C dJ6_bitCount_0f7a4_36 (by decide +kernel) ?_
  refine gl_iushr (pc := 38) C dJ6_bitCount_0f7a4_38 ?_
  first | with_reducible refine gl_iaddN (pc := 39) C dJ6_bitCount_0f7a4_39 ?_ | refine gl_iadd (pc := 39) C dJ6_bitCount_0f7a4_39 ?_
  refine gl_istore_0 (pc := 40) C dJ6_bitCount_0f7a4_40 ?_
  refine gl_iload_0 (pc := 41) C dJ6_bitCount_0f7a4_41 ?_
  refine gl_iload_0 (pc := 42) C dJ6_bitCount_0f7a4_42 ?_
  refine gl_bipush (pc := 43) (nI 16) C dJ6_bitCount_0f7a4_43 (by decide +kernel) ?_
  refine gl_iushr (pc := 45) C dJ6_bitCount_0f7a4_45 ?_
  first | with_reducible refine gl_iaddN (pc := 46) C dJ6_bitCount_0f7a4_46 ?_ | refine gl_iadd (pc := 46) C dJ6_bitCount_0f7a4_46 ?_
  refine gl_istore_0 (pc := 47) C dJ6_bitCount_0f7a4_47 ?_
  refine gl_iload_0 (pc := 48) C dJ6_bitCount_0f7a4_48 ?_
  refine gl_bipush (pc := 49) (nI 63) C dJ6_bitCount_0f7a4_49 (by decide +kernel) ?_
  refine gl_iand (pc := 51) C dJ6_bitCount_0f7a4_51 ?_
  exact gl_iret (pc := 52) C dJ6_bitCount_0f7a4_52 (sp_bc_ok h) (rfl)
set_option maxRecDepth 100000 in
set_option maxHeartbeats 4000000 in
theorem ctX3_hour (F : gl_F) {n m t : Nat} {M : Nat → Int32} (w : sp_W n m t M) (ht31 : t < 2 ^ 31) : gl_Ct F LH yX3_hour wsX3_hour rmX3_hour [.ref (gl_r F 0)] M (some (.int (nI (sp_hr t)))) (M) := by
  refine gl_met (cc := cX3_hour) (maxL := 1) (ret := some .int) [some (.ref (gl_r F 0))] (plainFor_of_name (by decide)) rfl ok_LH (by simp [Value.category]) (Nat.le_of_ble_eq_true rfl) rfl (fun V hV C => ?_)
  subst hV
  obtain ⟨hn40, hm5, hn, hm, ht, hcar, hcal⟩ := id w
  refine gl_aload_0 (pc := 0) C dX3_hour_0 ?_
  refine gl_getI (pc := 1) C dX3_hour_1 fX3_hour_29 rfl rfl ?_
  refine gl_top ht ?_
  refine gl_bipush (pc := 4) (nI 60) C dX3_hour_4 (by decide +kernel) ?_
  refine gl_idiv (pc := 6) C dX3_hour_6 (by decide) ?_
  refine gl_top (pk_div ht31 (by omega) (by omega)) ?_
  refine gl_bipush (pc := 7) (nI 24) C dX3_hour_7 (by decide +kernel) ?_
  refine gl_callSi (pc := 9) (ctJ9_floorMod V.1 LH ok_LH M (a := t / 60) (b := 24) (by omega) (by omega) (by omega)) C dX3_hour_9 gX3_hour_J9_floorMod_7cf53 rfl hdJ9_floorMod_7cf53 ⟨rfl, rfl, Nat.le_of_ble_eq_true rfl, Nat.le_of_ble_eq_true rfl⟩ rfl (Nat.le_of_ble_eq_true rfl) rfl ?_
  exact gl_iret (pc := 12) C dX3_hour_12 (rfl) (rfl)
set_option maxRecDepth 100000 in
set_option maxHeartbeats 4000000 in
theorem ctX3_isAwake (F : gl_F) {n m t : Nat} {M : Nat → Int32} (w : sp_W n m t M) (ht31 : t < 2 ^ 31) (c : Nat) : gl_Ct F LH yX3_isAwake wsX3_isAwake rmX3_isAwake [.ref (gl_r F 0), .int (nI c)] M (some (.int (if sp_awake M t c then nI 1 else nI 0))) (M) := by
  refine gl_met (cc := cX3_isAwake) (maxL := 2) (ret := some .boolean) [some (.ref (gl_r F 0)), some (.int (nI c))] (plainFor_of_name (by decide)) rfl ok_LH (by simp [Value.category]) (Nat.le_of_ble_eq_true rfl) rfl (fun V hV C => ?_)
  subst hV
  refine gl_iload_1 (pc := 0) C dX3_isAwake_0 ?_
  refine gl_aload_0 (pc := 1) C dX3_isAwake_1 ?_
  refine gl_getR (pc := 2) C dX3_isAwake_2 fX3_isAwake_9 rfl rfl ?_
  refine gl_aload_0 (pc := 5) C dX3_isAwake_5 ?_
  refine gl_callVi (pc := 6) (ctX3_hour V.1 w ht31) C dX3_isAwake_6 gX3_isAwake_X3_hour rfl hdX3_hour ⟨rfl, rfl, Nat.le_of_ble_eq_true rfl, Nat.le_of_ble_eq_true rfl⟩ rfl (Nat.le_of_ble_eq_true rfl) rfl rfl rfl ?_
  refine gl_iald (pc := 9) _ C dX3_isAwake_9 rfl rfl (Nat.mod_lt _ (by omega)) ?_
  refine gl_icmp_ge (pc := 10) 17 C dX3_isAwake_10 (by decide) (fun h10 => ?_) (fun h10 => ?_)
  · skip
    refine gl_iconst (pc := 17) (nI 0) C dX3_isAwake_17 (by decide) ?_
    exact gl_zret (pc := 18) C dX3_isAwake_18 (by rfl) (by simp only [sp_awake]; simp [*]) (rfl)
  · skip
    refine gl_iconst (pc := 13) (nI 1) C dX3_isAwake_13 (by decide) ?_
    refine gl_goto (pc := 14) 18 C dX3_isAwake_14 (by decide) ?_
    exact gl_zret (pc := 18) C dX3_isAwake_18 (by rfl) (by simp only [sp_awake]; simp [*]) (rfl)
set_option maxRecDepth 100000 in
set_option maxHeartbeats 4000000 in
theorem ctX3_canBeGiven (F : gl_F) {n m t : Nat} {M : Nat → Int32} (w : sp_W n m t M) (ht31 : t < 2 ^ 31) {c : Nat} (hc : c < 5) (f g : Int32) : gl_Ct F LH yX3_canBeGiven wsX3_canBeGiven rmX3_canBeGiven [.ref (gl_r F 0), .int (nI c), .int f, .int g] M (some (.int (if sp_can M t c f g then nI 1 else nI 0))) (M) := by
  refine gl_met (cc := cX3_canBeGiven) (maxL := 4) (ret := some .boolean) [some (.ref (gl_r F 0)), some (.int (nI c)), some (.int f), some (.int g)] (plainFor_of_name (by decide)) rfl ok_LH (by simp [Value.category]) (Nat.le_of_ble_eq_true rfl) rfl (fun V hV C => ?_)
  subst hV
  refine gl_aload_0 (pc := 0) C dX3_canBeGiven_0 ?_
  refine gl_getR (pc := 1) C dX3_canBeGiven_1 fX3_canBeGiven_18 rfl rfl ?_
  refine gl_getR (pc := 4) C dX3_canBeGiven_4 fX3_canBeGiven_56 rfl rfl ?_
  refine gl_iload_1 (pc := 7) C dX3_canBeGiven_7 ?_
  refine gl_iald (pc := 8) _ C dX3_canBeGiven_8 rfl rfl (by omega) ?_
  refine gl_ifne (pc := 9) 48 C dX3_canBeGiven_9 (by decide) (fun h9 => ?_) (fun h9 => ?_)
  · skip
    refine gl_iconst (pc := 48) (nI 0) C dX3_canBeGiven_48 (by decide) ?_
    exact gl_zret (pc := 49) C dX3_canBeGiven_49 (by rfl) (by grind) (rfl)
  · skip
    refine gl_aload_0 (pc := 12) C dX3_canBeGiven_12 ?_
    refine gl_iload_1 (pc := 13) C dX3_canBeGiven_13 ?_
    refine gl_callVi (pc := 14) (ctX3_isAwake V.1 w ht31 c) C dX3_canBeGiven_14 gX3_canBeGiven_X3_isAwake rfl hdX3_isAwake ⟨rfl, rfl, Nat.le_of_ble_eq_true rfl, Nat.le_of_ble_eq_true rfl⟩ rfl (Nat.le_of_ble_eq_true rfl) rfl rfl rfl ?_
    refine gl_ifeq (pc := 17) 48 C dX3_canBeGiven_17 (by decide) (fun h17 => ?_) (fun h17 => ?_)
    · skip
      replace h17 := gl_bz.mp h17
      refine gl_iconst (pc := 48) (nI 0) C dX3_canBeGiven_48 (by decide) ?_
      exact gl_zret (pc := 49) C dX3_canBeGiven_49 (by rfl) (by grind) (rfl)
    · skip
      replace h17 := gl_bn.mp h17
      refine gl_aload_0 (pc := 20) C dX3_canBeGiven_20 ?_
      refine gl_getR (pc := 21) C dX3_canBeGiven_21 fX3_canBeGiven_18 rfl rfl ?_
      refine gl_iload_1 (pc := 24) C dX3_canBeGiven_24 ?_
      refine gl_iload_2 (pc := 25) C dX3_canBeGiven_25 ?_
      refine gl_callVi (pc := 26) (ctX1_serves V.1 M c hc f) C dX3_canBeGiven_26 gX3_canBeGiven_X1_serves rfl hdX1_serves ⟨rfl, rfl, Nat.le_of_ble_eq_true rfl, Nat.le_of_ble_eq_true rfl⟩ rfl (Nat.le_of_ble_eq_true rfl) rfl rfl rfl ?_
      refine gl_ifeq (pc := 29) 48 C dX3_canBeGiven_29 (by decide) (fun h29 => ?_) (fun h29 => ?_)
      · skip
        replace h29 := gl_bz.mp h29
        refine gl_iconst (pc := 48) (nI 0) C dX3_canBeGiven_48 (by decide) ?_
        exact gl_zret (pc := 49) C dX3_canBeGiven_49 (by rfl) (by grind) (rfl)
      · skip
        replace h29 := gl_bn.mp h29
        refine gl_aload_0 (pc := 32) C dX3_canBeGiven_32 ?_
        refine gl_getR (pc := 33) C dX3_canBeGiven_33 fX3_canBeGiven_18 rfl rfl ?_
        refine gl_iload_1 (pc := 36) C dX3_canBeGiven_36 ?_
        refine gl_iload_3 (pc := 37) C dX3_canBeGiven_37 ?_
        refine gl_callVi (pc := 38) (ctX1_serves V.1 M c hc g) C dX3_canBeGiven_38 gX3_canBeGiven_X1_serves rfl hdX1_serves ⟨rfl, rfl, Nat.le_of_ble_eq_true rfl, Nat.le_of_ble_eq_true rfl⟩ rfl (Nat.le_of_ble_eq_true rfl) rfl rfl rfl ?_
        refine gl_ifeq (pc := 41) 48 C dX3_canBeGiven_41 (by decide) (fun h41 => ?_) (fun h41 => ?_)
        · skip
          replace h41 := gl_bz.mp h41
          refine gl_iconst (pc := 48) (nI 0) C dX3_canBeGiven_48 (by decide) ?_
          exact gl_zret (pc := 49) C dX3_canBeGiven_49 (by rfl) (by grind) (rfl)
        · skip
          replace h41 := gl_bn.mp h41
          refine gl_iconst (pc := 44) (nI 1) C dX3_canBeGiven_44 (by decide) ?_
          refine gl_goto (pc := 45) 49 C dX3_canBeGiven_45 (by decide) ?_
          exact gl_zret (pc := 49) C dX3_canBeGiven_49 (by rfl) (by grind) (rfl)
set_option maxRecDepth 100000 in
set_option maxHeartbeats 4000000 in
theorem ctX3_costOf (F : gl_F) {n m t : Nat} {M : Nat → Int32} (w : sp_W n m t M) {c : Nat} (hc : c < m) {f g : Int32} (hf : sp_fl f) (hg : sp_fl g) : gl_Ct F LH yX3_costOf wsX3_costOf rmX3_costOf [.ref (gl_r F 0), .int (nI c), .int f, .int g] M (some (.int (sp_cost M c f g n))) (M) := by
  refine gl_met (cc := cX3_costOf) (maxL := 6) (ret := some .int) [some (.ref (gl_r F 0)), some (.int (nI c)), some (.int f), some (.int g), none, none] (plainFor_of_name (by decide)) rfl ok_LH (by simp [Value.category]) (Nat.le_of_ble_eq_true rfl) rfl (fun V hV C => ?_)
  subst hV
  obtain ⟨hn40, hm5, hn, hm, ht, hcar, hcal⟩ := id w
  refine gl_aload_0 (pc := 0) C dX3_costOf_0 ?_
  refine gl_getR (pc := 1) C dX3_costOf_1 fX3_costOf_18 rfl rfl ?_
  refine gl_getR (pc := 4) C dX3_costOf_4 fX3_costOf_67 rfl rfl ?_
  refine gl_iload_1 (pc := 7) C dX3_costOf_7 ?_
  refine gl_iald (pc := 8) _ C dX3_costOf_8 rfl rfl (by omega) ?_
  refine gl_iload_2 (pc := 9) C dX3_costOf_9 ?_
  refine gl_isub (pc := 10) C dX3_costOf_10 ?_
  refine gl_abs (pc := 11) C dX3_costOf_11 (by decide +kernel) (by decide +kernel) (by decide +kernel) (by decide +kernel) ⟨Nat.le_of_ble_eq_true rfl, Nat.le_of_ble_eq_true rfl⟩ ?_
  refine gl_top (sp_far_abs (hcar c hc).2.2.1 hf) ?_
  refine gl_istore_4 (pc := 14) C dX3_costOf_14 ?_
  refine gl_aload_0 (pc := 16) C dX3_costOf_16 ?_
  refine gl_getR (pc := 17) C dX3_costOf_17 fX3_costOf_25 rfl rfl ?_
  refine gl_iload_1 (pc := 20) C dX3_costOf_20 ?_
  refine gl_callVi (pc := 21) (ctX0_stopsOf V.1 hn40 hn (nI c)) C dX3_costOf_21 gX3_costOf_X0_stopsOf rfl hdX0_stopsOf ⟨rfl, rfl, Nat.le_of_ble_eq_true rfl, Nat.le_of_ble_eq_true rfl⟩ rfl (Nat.le_of_ble_eq_true rfl) rfl rfl rfl ?_
  refine gl_iconst (pc := 24) (nI 1) C dX3_costOf_24 (by decide) ?_
  refine gl_iload_2 (pc := 25) C dX3_costOf_25 ?_
  refine gl_ishl (pc := 26) C dX3_costOf_26 ?_
  refine gl_ior (pc := 27) C dX3_costOf_27 ?_
  refine gl_iconst (pc := 28) (nI 1) C dX3_costOf_28 (by decide) ?_
  refine gl_iload_3 (pc := 29) C dX3_costOf_29 ?_
  refine gl_ishl (pc := 30) C dX3_costOf_30 ?_
  refine gl_ior (pc := 31) C dX3_costOf_31 ?_
  refine gl_callSi (pc := 32) (ctJ6_bitCount V.1 LH ok_LH M (x := sp_bits M (nI c) f g n) (sp_b16_or (sp_b16_or (sp_b16_stops n (fun k hk => ⟨(hcal k hk).1, (hcal k hk).2.1⟩)) (sp_b16_sh hf)) (sp_b16_sh hg))) C dX3_costOf_32 gX3_costOf_J6_bitCount_0f7a4 rfl hdJ6_bitCount_0f7a4 ⟨rfl, rfl, Nat.le_of_ble_eq_true rfl, Nat.le_of_ble_eq_true rfl⟩ rfl (Nat.le_of_ble_eq_true rfl) rfl ?_
  refine gl_istore_5 (pc := 35) C dX3_costOf_35 ?_
  refine gl_iload_4 (pc := 37) C dX3_costOf_37 ?_
  refine gl_iconst (pc := 39) (nI 2) C dX3_costOf_39 (by decide) ?_
  refine gl_iload_5 (pc := 40) C dX3_costOf_40 ?_
  first | with_reducible refine gl_imulN (pc := 42) C dX3_costOf_42 ?_ | refine gl_imul (pc := 42) C dX3_costOf_42 ?_
  first | with_reducible refine gl_iaddN (pc := 43) C dX3_costOf_43 ?_ | refine gl_iadd (pc := 43) C dX3_costOf_43 ?_
  refine gl_aload_0 (pc := 44) C dX3_costOf_44 ?_
  refine gl_getR (pc := 45) C dX3_costOf_45 fX3_costOf_25 rfl rfl ?_
  refine gl_iload_1 (pc := 48) C dX3_costOf_48 ?_
  refine gl_callVi (pc := 49) (ctX0_numberWith V.1 hn40 hn (nI c)) C dX3_costOf_49 gX3_costOf_X0_numberWith rfl hdX0_numberWith ⟨rfl, rfl, Nat.le_of_ble_eq_true rfl, Nat.le_of_ble_eq_true rfl⟩ rfl (Nat.le_of_ble_eq_true rfl) rfl rfl rfl ?_
  first | with_reducible refine gl_iaddN (pc := 52) C dX3_costOf_52 ?_ | refine gl_iadd (pc := 52) C dX3_costOf_52 ?_
  exact gl_iret (pc := 53) C dX3_costOf_53 (rfl) (rfl)
set_option maxRecDepth 100000 in
set_option maxHeartbeats 4000000 in
theorem ctX3_bestCar (F : gl_F) {n m t : Nat} {M : Nat → Int32} (w : sp_W n m t M) (ht31 : t < 2 ^ 31) {f g : Int32} (hf : sp_fl f) (hg : sp_fl g) : gl_Ct F LH yX3_bestCar wsX3_bestCar rmX3_bestCar [.ref (gl_r F 0), .int f, .int g] M (some (.int (sp_best M t f g n m).1)) (M) := by
  refine gl_met (cc := cX3_bestCar) (maxL := 7) (ret := some .int) [some (.ref (gl_r F 0)), some (.int f), some (.int g), none, none, none, none] (plainFor_of_name (by decide)) rfl ok_LH (by simp [Value.category]) (Nat.le_of_ble_eq_true rfl) rfl (fun V hV C => ?_)
  subst hV
  obtain ⟨hn40, hm5, hn, hm, ht, hcar, hcal⟩ := id w
  refine gl_bipush (pc := 0) (-9) C dX3_bestCar_0 (by decide +kernel) ?_
  refine gl_istore_3 (pc := 2) C dX3_bestCar_2 ?_
  refine gl_iconst (pc := 3) (nI 0) C dX3_bestCar_3 (by decide) ?_
  refine gl_istore_4 (pc := 4) C dX3_bestCar_4 ?_
  refine gl_iconst (pc := 6) (nI 0) C dX3_bestCar_6 (by decide) ?_
  refine gl_istore_5 (pc := 7) C dX3_bestCar_7 ?_
  refine gl_loop (pc := 9) (n := m) (fun c => [some (.ref (gl_r V.1 0)), some (.int f), some (.int g), some (.int (sp_best M t f g n c).1), some (.int (sp_best M t f g n c).2), some (.int (nI c)), none]) (fun c => M) (fun c => True) 0 (Nat.zero_le _) (trivial) (gl_le_c (rfl) (gl_le_c (rfl) (gl_le_c (rfl) (gl_le_c (rfl) (gl_le_c (rfl) (gl_le_c (rfl) (gl_le_o (gl_le_n)))))))) (rfl) (fun hI => ?_) (fun c hc hI ih => ?_)
  · skip
    refine gl_iload_5 (pc := 9) C dX3_bestCar_9 ?_
    refine gl_aload_0 (pc := 11) C dX3_bestCar_11 ?_
    refine gl_getR (pc := 12) C dX3_bestCar_12 fX3_bestCar_18 rfl rfl ?_
    refine gl_getI (pc := 15) C dX3_bestCar_15 fX3_bestCar_85 rfl rfl ?_
    refine gl_top hm ?_
    refine gl_icmp_ge (pc := 18) 71 C dX3_bestCar_18 (by decide) (fun h18 => ?_) (fun h18 => absurd h18 (gl_xge))
    refine gl_iload_3 (pc := 71) C dX3_bestCar_71 ?_
    exact gl_iret (pc := 72) C dX3_bestCar_72 (rfl) (rfl)
  · skip
    refine gl_iload_5 (pc := 9) C dX3_bestCar_9 ?_
    refine gl_aload_0 (pc := 11) C dX3_bestCar_11 ?_
    refine gl_getR (pc := 12) C dX3_bestCar_12 fX3_bestCar_18 rfl rfl ?_
    refine gl_getI (pc := 15) C dX3_bestCar_15 fX3_bestCar_85 rfl rfl ?_
    refine gl_top hm ?_
    refine gl_icmp_ge (pc := 18) 71 C dX3_bestCar_18 (by decide) (fun h18 => absurd h18 (nI_ge hc (by omega))) (fun h18 => ?_)
    refine gl_aload_0 (pc := 21) C dX3_bestCar_21 ?_
    refine gl_iload_5 (pc := 22) C dX3_bestCar_22 ?_
    refine gl_iload_1 (pc := 24) C dX3_bestCar_24 ?_
    refine gl_iload_2 (pc := 25) C dX3_bestCar_25 ?_
    refine gl_callVi (pc := 26) (ctX3_canBeGiven V.1 w ht31 (by omega) f g) C dX3_bestCar_26 gX3_bestCar_X3_canBeGiven rfl hdX3_canBeGiven ⟨rfl, rfl, Nat.le_of_ble_eq_true rfl, Nat.le_of_ble_eq_true rfl⟩ rfl (Nat.le_of_ble_eq_true rfl) rfl rfl rfl ?_
    refine gl_ifne (pc := 29) 35 C dX3_bestCar_29 (by decide) (fun h29 => ?_) (fun h29 => ?_)
    · skip
      replace h29 := gl_bn.mp h29
      refine gl_aload_0 (pc := 35) C dX3_bestCar_35 ?_
      refine gl_iload_5 (pc := 36) C dX3_bestCar_36 ?_
      refine gl_iload_1 (pc := 38) C dX3_bestCar_38 ?_
      refine gl_iload_2 (pc := 39) C dX3_bestCar_39 ?_
      refine gl_callVi (pc := 40) (ctX3_costOf V.1 w hc hf hg) C dX3_bestCar_40 gX3_bestCar_X3_costOf rfl hdX3_costOf ⟨rfl, rfl, Nat.le_of_ble_eq_true rfl, Nat.le_of_ble_eq_true rfl⟩ rfl (Nat.le_of_ble_eq_true rfl) rfl rfl rfl ?_
      refine gl_istore_6 (pc := 43) C dX3_bestCar_43 ?_
      refine gl_iload_3 (pc := 45) C dX3_bestCar_45 ?_
      refine gl_bipush (pc := 46) (-9) C dX3_bestCar_46 (by decide +kernel) ?_
      refine gl_icmp_eq (pc := 48) 58 C dX3_bestCar_48 (by decide) (fun h48 => ?_) (fun h48 => ?_)
      · skip
        refine gl_iload_5 (pc := 58) C dX3_bestCar_58 ?_
        refine gl_istore_3 (pc := 60) C dX3_bestCar_60 ?_
        refine gl_iload_6 (pc := 61) C dX3_bestCar_61 ?_
        refine gl_istore_4 (pc := 63) C dX3_bestCar_63 ?_
        first | with_reducible refine gl_iincN_5 (pc := 65) gl_i1 C dX3_bestCar_65 ?_ | refine gl_iinc_5 (pc := 65) C dX3_bestCar_65 (gl_inc1 _) ?_
        refine gl_goto (pc := 68) 9 C dX3_bestCar_68 (by decide) ?_
        exact gl_on (ih (trivial)) (gl_le_c (rfl) (gl_le_c (rfl) (gl_le_c (rfl) (gl_le_c (congrArg Value.int (by grind [sp_best])) (gl_le_c (congrArg Value.int (by grind [sp_best])) (gl_le_c (rfl) (gl_le_o (gl_le_n)))))))) (rfl)
      · skip
        refine gl_iload_6 (pc := 51) C dX3_bestCar_51 ?_
        refine gl_iload_4 (pc := 53) C dX3_bestCar_53 ?_
        refine gl_icmp_ge (pc := 55) 65 C dX3_bestCar_55 (by decide) (fun h55 => ?_) (fun h55 => ?_)
        · skip
          first | with_reducible refine gl_iincN_5 (pc := 65) gl_i1 C dX3_bestCar_65 ?_ | refine gl_iinc_5 (pc := 65) C dX3_bestCar_65 (gl_inc1 _) ?_
          refine gl_goto (pc := 68) 9 C dX3_bestCar_68 (by decide) ?_
          exact gl_on (ih (trivial)) (gl_le_c (rfl) (gl_le_c (rfl) (gl_le_c (rfl) (gl_le_c (congrArg Value.int (by grind [sp_best])) (gl_le_c (congrArg Value.int (by grind [sp_best])) (gl_le_c (rfl) (gl_le_o (gl_le_n)))))))) (rfl)
        · skip
          refine gl_iload_5 (pc := 58) C dX3_bestCar_58 ?_
          refine gl_istore_3 (pc := 60) C dX3_bestCar_60 ?_
          refine gl_iload_6 (pc := 61) C dX3_bestCar_61 ?_
          refine gl_istore_4 (pc := 63) C dX3_bestCar_63 ?_
          first | with_reducible refine gl_iincN_5 (pc := 65) gl_i1 C dX3_bestCar_65 ?_ | refine gl_iinc_5 (pc := 65) C dX3_bestCar_65 (gl_inc1 _) ?_
          refine gl_goto (pc := 68) 9 C dX3_bestCar_68 (by decide) ?_
          exact gl_on (ih (trivial)) (gl_le_c (rfl) (gl_le_c (rfl) (gl_le_c (rfl) (gl_le_c (congrArg Value.int (by grind [sp_best])) (gl_le_c (congrArg Value.int (by grind [sp_best])) (gl_le_c (rfl) (gl_le_o (gl_le_n)))))))) (rfl)
    · skip
      replace h29 := gl_bz.mp h29
      refine gl_goto (pc := 32) 65 C dX3_bestCar_32 (by decide) ?_
      first | with_reducible refine gl_iincN_5 (pc := 65) gl_i1 C dX3_bestCar_65 ?_ | refine gl_iinc_5 (pc := 65) C dX3_bestCar_65 (gl_inc1 _) ?_
      refine gl_goto (pc := 68) 9 C dX3_bestCar_68 (by decide) ?_
      exact gl_on (ih (trivial)) (gl_le_c (rfl) (gl_le_c (rfl) (gl_le_c (rfl) (gl_le_c (congrArg Value.int (by grind [sp_best])) (gl_le_c (congrArg Value.int (by grind [sp_best])) (gl_le_c (rfl) (gl_le_o (gl_le_n)))))))) (rfl)
end
section
/-! ===== the changes ===== -/
theorem iK_ne {j k v w : Nat} (hv : v < 8) (hw : w < 8) (h : ¬ (j = k ∧ v = w)) : iK j v ≠ iK k w := by unfold iK; omega
theorem iC_ne {j k v w : Nat} (hv : v < 6) (hw : w < 6) (h : ¬ (j = k ∧ v = w)) : iC j v ≠ iC k w := by unfold iC; omega
theorem iCK {c v k w : Nat} (hc : c < 5) (hv : v < 6) : iC c v ≠ iK k w := by unfold iC iK; omega
theorem sp_W_K {n m t : Nat} {M M' : Nat → Int32} (h : sp_W n m t M) (k : Nat) (hk : ∀ i, (∀ w, w < 8 → i ≠ iK k w) → M' i = M i) (hc : sp_cal M' k) : sp_W n m t M' := by
  obtain ⟨h1, h2, h3, h4, h5, h6, h7⟩ := h
  refine ⟨h1, h2, ?_, ?_, ?_, fun c hcm => ?_, fun j hj => ?_⟩
  · rw [hk 2 (fun w _ => by unfold iK; omega)]; exact h3
  · rw [hk 1 (fun w _ => by unfold iK; omega)]; exact h4
  · rw [hk 0 (fun w _ => by unfold iK; omega)]; exact h5
  · have e : ∀ v, v < 6 → M' (iC c v) = M (iC c v) := fun v hv => hk _ (fun w _ => iCK (by omega) hv)
    have := h6 c hcm
    unfold sp_car at this ⊢
    rw [e 0 (by omega), e 1 (by omega), e 2 (by omega), e 3 (by omega)]
    exact this
  · by_cases hjk : j = k
    · subst hjk; exact hc
    · have e : ∀ v, v < 8 → M' (iK j v) = M (iK j v) := fun v hv => hk _ (fun w hw => iK_ne hv hw (fun q => hjk q.1))
      have := h7 j hj
      unfold sp_cal at this ⊢
      rw [e 0 (by omega), e 1 (by omega), e 2 (by omega), e 6 (by omega)]
      exact this
theorem sp_W_C {n m t : Nat} {M M' : Nat → Int32} (h : sp_W n m t M) (c : Nat) (hc5 : c < 5) (hk : ∀ i, (∀ w, w < 6 → i ≠ iC c w) → M' i = M i) (hc : sp_car M' c) : sp_W n m t M' := by
  obtain ⟨h1, h2, h3, h4, h5, h6, h7⟩ := h
  refine ⟨h1, h2, ?_, ?_, ?_, fun d hd => ?_, fun j hj => ?_⟩
  · rw [hk 2 (fun w _ => by unfold iC; omega)]; exact h3
  · rw [hk 1 (fun w _ => by unfold iC; omega)]; exact h4
  · rw [hk 0 (fun w _ => by unfold iC; omega)]; exact h5
  · by_cases hdc : d = c
    · subst hdc; exact hc
    · have e : ∀ v, v < 6 → M' (iC d v) = M (iC d v) := fun v hv => hk _ (fun w hw => iC_ne hv hw (fun q => hdc q.1))
      have := h6 d hd
      unfold sp_car at this ⊢
      rw [e 0 (by omega), e 1 (by omega), e 2 (by omega), e 3 (by omega)]
      exact this
  · have e : ∀ v, v < 8 → M' (iK j v) = M (iK j v) := fun v hv => hk _ (fun w hw => (iCK hc5 hw).symm)
    have := h7 j hj
    unfold sp_cal at this ⊢
    rw [e 0 (by omega), e 1 (by omega), e 2 (by omega), e 6 (by omega)]
    exact this
theorem sp_W_3 {n m t : Nat} {M : Nat → Int32} (h : sp_W n m t M) (x : Int32) : sp_W n m t (upd M 3 x) := by
  obtain ⟨h1, h2, h3, h4, h5, h6, h7⟩ := h
  have e : ∀ i, i ≠ 3 → upd M 3 x i = M i := fun i hi => gl_upd_ne hi
  refine ⟨h1, h2, by rw [e _ (by omega)]; exact h3, by rw [e _ (by omega)]; exact h4, by rw [e _ (by omega)]; exact h5, fun c hc => ?_, fun k hk => ?_⟩
  · have := h6 c hc
    unfold sp_car at this ⊢
    rw [e _ (by unfold iC; omega), e _ (by unfold iC; omega), e _ (by unfold iC; omega), e _ (by unfold iC; omega)]
    exact this
  · have := h7 k hk
    unfold sp_cal at this ⊢
    rw [e _ (by unfold iK; omega), e _ (by unfold iK; omega), e _ (by unfold iK; omega), e _ (by unfold iK; omega)]
    exact this
theorem sp_W_0 {n m t : Nat} {M : Nat → Int32} (h : sp_W n m t M) : sp_W n m (t + 1) (upd M 0 (M 0 + nI 1)) := by
  obtain ⟨h1, h2, h3, h4, h5, h6, h7⟩ := h
  have e : ∀ i, i ≠ 0 → upd M 0 (M 0 + nI 1) i = M i := fun i hi => gl_upd_ne hi
  refine ⟨h1, h2, by rw [e _ (by omega)]; exact h3, by rw [e _ (by omega)]; exact h4, by rw [gl_upd_eq, h5]; exact nI_1 t, fun c hc => ?_, fun k hk => ?_⟩
  · have := h6 c hc
    unfold sp_car at this ⊢
    rw [e _ (by unfold iC; omega), e _ (by unfold iC; omega), e _ (by unfold iC; omega), e _ (by unfold iC; omega)]
    exact this
  · have := h7 k hk
    unfold sp_cal at this ⊢
    rw [e _ (by unfold iK; omega), e _ (by unfold iK; omega), e _ (by unfold iK; omega), e _ (by unfold iK; omega)]
    exact this
/-- reading a caller's number in a memory where one of his numbers was changed -/
theorem rK {M : Nat → Int32} {k v w : Nat} {x : Int32} (hv : v < 8) (hw : w < 8) (h : v ≠ w) : upd M (iK k w) x (iK k v) = M (iK k v) := gl_upd_ne (iK_ne hv hw (fun q => h q.2))
theorem oK {M : Nat → Int32} {i k w : Nat} {x : Int32} (hw : w < 8) (h : ∀ w, w < 8 → i ≠ iK k w) : upd M (iK k w) x i = M i := gl_upd_ne (h w hw)
theorem oC {M : Nat → Int32} {i c w : Nat} {x : Int32} (hw : w < 6) (h : ∀ w, w < 6 → i ≠ iC c w) : upd M (iC c w) x i = M i := gl_upd_ne (h w hw)
/-- a caller is given a car -/
def sp_give (M : Nat → Int32) (k : Nat) (c : Int32) : Nat → Int32 := if c = -9 then M else upd (upd (upd M (iK k 2) (nI 1)) (iK k 3) c) (iK k 7) (M (iK k 7) + nI 1)
theorem sp_give_W {n m t : Nat} {M : Nat → Int32} (h : sp_W n m t M) {k : Nat} (hk : k < n) (h0 : M (iK k 2) ≠ nI 3) (c : Int32) : sp_W n m t (sp_give M k c) := by
  unfold sp_give
  split
  · exact h
  · refine sp_W_K h k (fun i hi => ?_) ?_
    · rw [oK (by omega) hi, oK (by omega) hi, oK (by omega) hi]
    · obtain ⟨q1, q2, q3, q4⟩ := h.2.2.2.2.2.2 k hk
      unfold sp_cal
      simp only [rK (k := k) (v := 0) (w := 7) (by omega) (by omega) (by omega), rK (k := k) (v := 0) (w := 3) (by omega) (by omega) (by omega), rK (k := k) (v := 0) (w := 2) (by omega) (by omega) (by omega),
        rK (k := k) (v := 1) (w := 7) (by omega) (by omega) (by omega), rK (k := k) (v := 1) (w := 3) (by omega) (by omega) (by omega), rK (k := k) (v := 1) (w := 2) (by omega) (by omega) (by omega),
        rK (k := k) (v := 2) (w := 7) (by omega) (by omega) (by omega), rK (k := k) (v := 2) (w := 3) (by omega) (by omega) (by omega), gl_upd_eq,
        rK (k := k) (v := 6) (w := 7) (by omega) (by omega) (by omega), rK (k := k) (v := 6) (w := 3) (by omega) (by omega) (by omega), rK (k := k) (v := 6) (w := 2) (by omega) (by omega) (by omega)]
      exact ⟨q1, q2, ⟨1, by omega, rfl⟩, fun _ => q4 h0⟩
/-- those who look are gone through -/
def sp_look (M : Nat → Int32) (t n m : Nat) : Nat → Nat → Int32
  | 0 => M
  | k + 1 => if sp_look M t n m k (iK k 2) = 0 then sp_give (sp_look M t n m k) k (sp_best (sp_look M t n m k) t (sp_look M t n m k (iK k 0)) (sp_look M t n m k (iK k 1)) n m).1 else sp_look M t n m k
theorem sp_look_W {n m t : Nat} {M : Nat → Int32} (h : sp_W n m t M) : ∀ k, k ≤ n → sp_W n m t (sp_look M t n m k) := by
  intro k
  induction k with
  | zero => intro _; exact h
  | succ k ih =>
    intro hk
    have h1 := ih (by omega)
    simp only [sp_look]
    split
    · rename_i h0
      exact sp_give_W h1 (by omega) (by rw [h0]; decide) _
    · exact h1
/-- those who ride to this floor are let out -/
def sp_outs (M : Nat → Int32) (c fl tk : Int32) : Nat → Nat → Int32
  | 0 => M
  | k + 1 => if sp_rd (sp_outs M c fl tk k) k c ∧ sp_outs M c fl tk k (iK k 1) = fl then upd (upd (sp_outs M c fl tk k) (iK k 2) (nI 3)) (iK k 6) tk else sp_outs M c fl tk k
def sp_outn (M : Nat → Int32) (c fl tk : Int32) : Nat → Nat
  | 0 => 0
  | k + 1 => if sp_rd (sp_outs M c fl tk k) k c ∧ sp_outs M c fl tk k (iK k 1) = fl then sp_outn M c fl tk k + 1 else sp_outn M c fl tk k
theorem sp_outn_le {M : Nat → Int32} {c fl tk : Int32} (k : Nat) : sp_outn M c fl tk k ≤ k := by
  induction k with
  | zero => exact Nat.le_refl _
  | succ k ih => simp only [sp_outn]; split <;> omega
theorem sp_cal3 {M : Nat → Int32} {k : Nat} (h : sp_cal M k) (tk : Int32) : sp_cal (upd (upd M (iK k 2) (nI 3)) (iK k 6) tk) k := by
  obtain ⟨q1, q2, q3, q4⟩ := h
  unfold sp_cal
  simp only [rK (k := k) (v := 0) (w := 6) (by omega) (by omega) (by omega), rK (k := k) (v := 0) (w := 2) (by omega) (by omega) (by omega), rK (k := k) (v := 1) (w := 6) (by omega) (by omega) (by omega), rK (k := k) (v := 1) (w := 2) (by omega) (by omega) (by omega), rK (k := k) (v := 2) (w := 6) (by omega) (by omega) (by omega), gl_upd_eq]
  exact ⟨q1, q2, ⟨3, by omega, rfl⟩, fun h => absurd rfl h⟩
theorem sp_outs_W {n m t : Nat} {M : Nat → Int32} (h : sp_W n m t M) {c fl tk : Int32} : ∀ k, k ≤ n → sp_W n m t (sp_outs M c fl tk k) := by
  intro k
  induction k with
  | zero => intro _; exact h
  | succ k ih =>
    intro hk
    have h1 := ih (by omega)
    simp only [sp_outs]
    split
    · refine sp_W_K h1 k (fun i hi => ?_) (sp_cal3 (h1.2.2.2.2.2.2 k (by omega)) tk)
      rw [oK (by omega) hi, oK (by omega) hi]
    · exact h1
/-- what isn't a phase or a tick of arrival stays -/
theorem sp_outs_o {M : Nat → Int32} {c fl tk : Int32} {i : Nat} (hi : ∀ j, i ≠ iK j 2 ∧ i ≠ iK j 6) : ∀ k, sp_outs M c fl tk k i = M i := by
  intro k
  induction k with
  | zero => rfl
  | succ k ih =>
    simp only [sp_outs]
    split
    · rw [gl_upd_ne (hi k).2, gl_upd_ne (hi k).1]; exact ih
    · exact ih
/-- how many of a car's are in a phase -/
def sp_ofN (M : Nat → Int32) (c is : Int32) : Nat → Nat
  | 0 => 0
  | k + 1 => if M (iK k 2) = is ∧ M (iK k 3) = c then sp_ofN M c is k + 1 else sp_ofN M c is k
theorem sp_of_N {M : Nat → Int32} {c is : Int32} (k : Nat) : sp_of M c is k = nI (sp_ofN M c is k) := by
  induction k with
  | zero => rfl
  | succ k ih =>
    simp only [sp_of, sp_ofN]
    split
    · rw [ih]; exact nI_1 _
    · exact ih
theorem sp_ofN_le {M : Nat → Int32} {c is : Int32} (k : Nat) : sp_ofN M c is k ≤ k := by
  induction k with
  | zero => exact Nat.le_refl _
  | succ k ih => simp only [sp_ofN]; split <;> omega
/-- those who wait here are taken, as long as there is a place -/
abbrev sp_tk (M : Nat → Int32) (c fl pl : Int32) (n k : Nat) : Prop := sp_wt M k c ∧ M (iK k 0) = fl ∧ ¬ pl ≤ sp_of M c (nI 2) n
def sp_tak (M : Nat → Int32) (c fl pl tk : Int32) (n : Nat) : Nat → Nat → Int32
  | 0 => M
  | k + 1 => if sp_tk (sp_tak M c fl pl tk n k) c fl pl n k then upd (upd (sp_tak M c fl pl tk n k) (iK k 2) (nI 2)) (iK k 5) tk else sp_tak M c fl pl tk n k
def sp_takn (M : Nat → Int32) (c fl pl tk : Int32) (n : Nat) : Nat → Nat
  | 0 => 0
  | k + 1 => if sp_tk (sp_tak M c fl pl tk n k) c fl pl n k then sp_takn M c fl pl tk n k + 1 else sp_takn M c fl pl tk n k
theorem sp_takn_le {M : Nat → Int32} {c fl pl tk : Int32} {n : Nat} (k : Nat) : sp_takn M c fl pl tk n k ≤ k := by
  induction k with
  | zero => exact Nat.le_refl _
  | succ k ih => simp only [sp_takn]; split <;> omega
theorem sp_tak_W {n m t : Nat} {M : Nat → Int32} (h : sp_W n m t M) {c fl pl tk : Int32} : ∀ k, k ≤ n → sp_W n m t (sp_tak M c fl pl tk n k) := by
  intro k
  induction k with
  | zero => intro _; exact h
  | succ k ih =>
    intro hk
    have h1 := ih (by omega)
    simp only [sp_tak]
    split
    · rename_i hc
      refine sp_W_K h1 k (fun i hi => ?_) ?_
      · rw [oK (by omega) hi, oK (by omega) hi]
      · obtain ⟨q1, q2, q3, q4⟩ := h1.2.2.2.2.2.2 k (by omega)
        unfold sp_cal
        simp only [rK (k := k) (v := 0) (w := 5) (by omega) (by omega) (by omega), rK (k := k) (v := 0) (w := 2) (by omega) (by omega) (by omega), rK (k := k) (v := 1) (w := 5) (by omega) (by omega) (by omega), rK (k := k) (v := 1) (w := 2) (by omega) (by omega) (by omega), rK (k := k) (v := 2) (w := 5) (by omega) (by omega) (by omega), gl_upd_eq, rK (k := k) (v := 6) (w := 5) (by omega) (by omega) (by omega), rK (k := k) (v := 6) (w := 2) (by omega) (by omega) (by omega)]
        exact ⟨q1, q2, ⟨2, by omega, rfl⟩, fun _ => q4 (by rw [hc.1.1]; decide)⟩
    · exact h1
theorem sp_tak_o {M : Nat → Int32} {c fl pl tk : Int32} {n i : Nat} (hi : ∀ j, i ≠ iK j 2 ∧ i ≠ iK j 5) : ∀ k, sp_tak M c fl pl tk n k i = M i := by
  intro k
  induction k with
  | zero => rfl
  | succ k ih =>
    simp only [sp_tak]
    split
    · rw [gl_upd_ne (hi k).2, gl_upd_ne (hi k).1]; exact ih
    · exact ih
/-- the number grows by one with each that is taken -/
theorem sp_ofN_up {M M' : Nat → Int32} {c is : Int32} {k : Nat} (h0 : ¬ (M (iK k 2) = is ∧ M (iK k 3) = c)) (h1 : M' (iK k 2) = is ∧ M' (iK k 3) = c) (ho : ∀ j, j ≠ k → M' (iK j 2) = M (iK j 2) ∧ M' (iK j 3) = M (iK j 3)) : ∀ n, sp_ofN M' c is n = sp_ofN M c is n + (if k < n then 1 else 0) := by
  intro n
  induction n with
  | zero => simp [sp_ofN]
  | succ n ih =>
    simp only [sp_ofN]
    by_cases hkn : n = k
    · subst hkn
      rw [if_pos h1, if_neg h0, ih]
      simp
    · rw [(ho n hkn).1, (ho n hkn).2, ih]
      have e : (k < n + 1) ↔ (k < n) := by omega
      simp only [e]
      split <;> omega
theorem sp_tak_of {M : Nat → Int32} {c fl pl tk : Int32} {n : Nat} : ∀ k, k ≤ n → sp_ofN (sp_tak M c fl pl tk n k) c (nI 2) n = sp_ofN M c (nI 2) n + sp_takn M c fl pl tk n k := by
  intro k
  induction k with
  | zero => intro _; rfl
  | succ k ih =>
    intro hk
    have h1 := ih (by omega)
    simp only [sp_tak, sp_takn]
    split
    · rename_i hc
      rw [sp_ofN_up (M := sp_tak M c fl pl tk n k) (k := k) (n := n), h1, if_pos (by omega)]
      · omega
      · rintro ⟨q1, -⟩
        have := hc.1.1.symm.trans q1
        exact absurd this (by decide)
      · exact ⟨by rw [rK (by omega) (by omega) (by omega), gl_upd_eq], by rw [rK (by omega) (by omega) (by omega), rK (by omega) (by omega) (by omega)]; exact hc.1.2⟩
      · intro j hj
        exact ⟨by rw [gl_upd_ne (iK_ne (by omega) (by omega) (fun q => hj q.1)), gl_upd_ne (iK_ne (by omega) (by omega) (fun q => hj q.1))], by rw [gl_upd_ne (iK_ne (by omega) (by omega) (fun q => hj q.1)), gl_upd_ne (iK_ne (by omega) (by omega) (fun q => hj q.1))]⟩
    · exact h1
/-- no place: nobody more is taken -/
theorem sp_tak_full {M : Nat → Int32} {c fl pl tk : Int32} {n k : Nat} (h : pl ≤ sp_of (sp_tak M c fl pl tk n k) c (nI 2) n) : ∀ d, sp_tak M c fl pl tk n (k + d) = sp_tak M c fl pl tk n k ∧ sp_takn M c fl pl tk n (k + d) = sp_takn M c fl pl tk n k := by
  intro d
  induction d with
  | zero => exact ⟨rfl, rfl⟩
  | succ d ih =>
    rw [show k + (d + 1) = (k + d) + 1 by omega]
    simp only [sp_tak, sp_takn]
    rw [ih.1, ih.2]
    rw [if_neg (by rintro ⟨-, -, q⟩; exact q h), if_neg (by rintro ⟨-, -, q⟩; exact q h)]
    exact ⟨rfl, rfl⟩
end
