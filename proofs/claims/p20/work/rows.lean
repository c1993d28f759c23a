section
-- ===== PART A: goes FIRST, ahead of the names: the tables' words, and 'selects' of the private methods out of them =====
/-- a private method of a class that the tables say can be made, by its rows of tables_1 -/
def lw_okq (q : MethodName × Nat) : Prop := (q.1.cls ≠ "java/lang/invoke/MethodHandle" ∧ q.1.cls ≠ "java/lang/invoke/VarHandle") ∧ Cond.instantiable q.1.cls q.2 ∈ tables_1 ∧ Cond.privateMethod q.1 ∈ tables_1 ∧ Cond.instanceMethod q.1 ∈ tables_1
def lw_privs : List (MethodName × Nat) := []
def lw_tbl : List Cond := k2_sels lw_privs ++ tables_1
theorem lw_privs_ok : ∀ q ∈ lw_privs, lw_okq q := fun _ h => absurd h List.not_mem_nil
-- ===== end of PART A; then your names; then what follows =====
end
section
/-! ===== BEGIN words of one list among another's, by their places ===== -/
theorem goodIn_r {big : List Cond} (ws : List Cond) (ps : List Nat) (hp : ws = ps.filterMap (fun i => big[i]?)) (h : ws.all goodWord = true) : GoodIn big ws := by
  intro w hw
  have h1 := List.all_eq_true.mp h w hw
  rw [hp] at hw
  obtain ⟨i, -, hi⟩ := List.mem_filterMap.mp hw
  have hm : w ∈ big := by first | exact List.mem_of_getElem? hi | exact List.getElem?_mem hi
  exact ⟨hm, good_of_word h1⟩
theorem goodIn_app {big a b : List Cond} (ha : GoodIn big a) (hb : GoodIn big b) : GoodIn big (a ++ b) := fun w h => (List.mem_append.mp h).elim (ha w) (hb w)
theorem goodIn_ca {big a b : List Cond} {c : Cond} (ha : GoodIn big (c :: a)) (hb : GoodIn big b) : GoodIn big (c :: (a ++ b)) := fun w h => (List.mem_cons.mp h).elim (fun e => ha w (List.mem_cons.mpr (Or.inl e))) (fun h => (List.mem_append.mp h).elim (fun h => ha w (List.mem_cons.mpr (Or.inr h))) (hb w))
theorem goodIn_sub {big ws : List Cond} (hm : ∀ w ∈ ws, w ∈ big) (h : ws.all goodWord = true) : GoodIn big ws := fun w hw => ⟨hm w hw, good_of_word (List.all_eq_true.mp h w hw)⟩
/-! ===== END ===== -/

/-! ===== BEGIN printed: names, fields, word lists, decode rows ===== -/
def RX0 : String := "GoalLifts$Callers"
def TX0 : u_T := fun k => match k with
  | 0 => ("GoalLifts$Callers", "count", "I", false)
  | 1 => ("GoalLifts$Callers", "floor", "[I", true)
  | 2 => ("GoalLifts$Callers", "goal", "[I", true)
  | 3 => ("GoalLifts$Callers", "phase", "[I", true)
  | 4 => ("GoalLifts$Callers", "given", "[I", true)
  | 5 => ("GoalLifts$Callers", "calledAt", "[I", true)
  | 6 => ("GoalLifts$Callers", "rodeAt", "[I", true)
  | 7 => ("GoalLifts$Callers", "thereAt", "[I", true)
  | _ => ("GoalLifts$Callers", "timesGiven", "[I", true)
def tyX0 : Nat → FieldType := fun k => match k with
  | 0 => .int
  | 1 => .array .int
  | 2 => .array .int
  | 3 => .array .int
  | 4 => .array .int
  | 5 => .array .int
  | 6 => .array .int
  | 7 => .array .int
  | _ => .array .int
abbrev wsX00 : List Cond := u_ws RX0 TX0 9
theorem nmX0 : ∀ a, a < 9 → ∀ b, b < 9 → a ≠ b → (TX0 a).2.1 ≠ (TX0 b).2.1 := by decide +kernel
theorem tyX0_ok : ∀ k, k < 9 → parseFieldDescriptor (TX0 k).2.2.1 = some (tyX0 k) := by decide +kernel
abbrev cX0_init : ByteArray := prog_2_method_1_code
def yX0_init : MethodName := ⟨RX0, "<init>", "()V"⟩
abbrev cX0_copyFrom : ByteArray := prog_2_method_2_code
def yX0_copyFrom : MethodName := ⟨RX0, "copyFrom", "(LGoalLifts$Callers;)V"⟩
abbrev cX0_has : ByteArray := prog_2_method_3_code
def yX0_has : MethodName := ⟨RX0, "has", "(I)Z"⟩
abbrev cX0_add : ByteArray := prog_2_method_4_code
def yX0_add : MethodName := ⟨RX0, "add", "(III)I"⟩
abbrev cX0_give : ByteArray := prog_2_method_5_code
def yX0_give : MethodName := ⟨RX0, "give", "(II)V"⟩
abbrev cX0_rides : ByteArray := prog_2_method_6_code
def yX0_rides : MethodName := ⟨RX0, "rides", "(II)Z"⟩
abbrev cX0_waitsFor : ByteArray := prog_2_method_7_code
def yX0_waitsFor : MethodName := ⟨RX0, "waitsFor", "(II)Z"⟩
abbrev cX0_numberIn : ByteArray := prog_2_method_8_code
def yX0_numberIn : MethodName := ⟨RX0, "numberIn", "(I)I"⟩
abbrev cX0_numberOf : ByteArray := prog_2_method_9_code
def yX0_numberOf : MethodName := ⟨RX0, "numberOf", "(II)I"⟩
abbrev cX0_numberWith : ByteArray := prog_2_method_10_code
def yX0_numberWith : MethodName := ⟨RX0, "numberWith", "(I)I"⟩
abbrev cX0_stopsOf : ByteArray := prog_2_method_11_code
def yX0_stopsOf : MethodName := ⟨RX0, "stopsOf", "(I)I"⟩
abbrev cX0_aimOf : ByteArray := prog_2_method_12_code
def yX0_aimOf : MethodName := ⟨RX0, "aimOf", "(II)I"⟩
abbrev cX0_isNearer : ByteArray := prog_2_method_13_code
def yX0_isNearer : MethodName := ⟨RX0, "isNearer", "(III)Z"⟩
abbrev cX0_letOut : ByteArray := prog_2_method_14_code
def yX0_letOut : MethodName := ⟨RX0, "letOut", "(III)I"⟩
abbrev cX0_takeIn : ByteArray := prog_2_method_15_code
def yX0_takeIn : MethodName := ⟨RX0, "takeIn", "(IIII)I"⟩
abbrev cX0_loseCar : ByteArray := prog_2_method_16_code
def yX0_loseCar : MethodName := ⟨RX0, "loseCar", "(III)V"⟩
abbrev cX0_isInGroup : ByteArray := prog_2_method_18_code
def yX0_isInGroup : MethodName := ⟨RX0, "isInGroup", "(I)Z"⟩
abbrev cX0_sameGroup : ByteArray := prog_2_method_19_code
def yX0_sameGroup : MethodName := ⟨RX0, "sameGroup", "(II)Z"⟩
abbrev cX0_isFirstOfGroup : ByteArray := prog_2_method_20_code
def yX0_isFirstOfGroup : MethodName := ⟨RX0, "isFirstOfGroup", "(I)Z"⟩
abbrev cX0_numberOfGroups : ByteArray := prog_2_method_21_code
def yX0_numberOfGroups : MethodName := ⟨RX0, "numberOfGroups", "()I"⟩
abbrev cX0_firstOfGroup : ByteArray := prog_2_method_22_code
def yX0_firstOfGroup : MethodName := ⟨RX0, "firstOfGroup", "(I)I"⟩
abbrev cX0_sizeOfGroup : ByteArray := prog_2_method_23_code
def yX0_sizeOfGroup : MethodName := ⟨RX0, "sizeOfGroup", "(I)I"⟩
def RX1 : String := "GoalLifts$Cars"
def TX1 : u_T := fun k => match k with
  | 0 => ("GoalLifts$Cars", "count", "I", false)
  | 1 => ("GoalLifts$Cars", "stopsMade", "I", false)
  | 2 => ("GoalLifts$Cars", "lowest", "[I", true)
  | 3 => ("GoalLifts$Cars", "highest", "[I", true)
  | 4 => ("GoalLifts$Cars", "places", "[I", true)
  | 5 => ("GoalLifts$Cars", "floor", "[I", true)
  | 6 => ("GoalLifts$Cars", "state", "[I", true)
  | _ => ("GoalLifts$Cars", "travelled", "[I", true)
def tyX1 : Nat → FieldType := fun k => match k with
  | 0 => .int
  | 1 => .int
  | 2 => .array .int
  | 3 => .array .int
  | 4 => .array .int
  | 5 => .array .int
  | 6 => .array .int
  | _ => .array .int
abbrev wsX10 : List Cond := u_ws RX1 TX1 8
theorem nmX1 : ∀ a, a < 8 → ∀ b, b < 8 → a ≠ b → (TX1 a).2.1 ≠ (TX1 b).2.1 := by decide +kernel
theorem tyX1_ok : ∀ k, k < 8 → parseFieldDescriptor (TX1 k).2.2.1 = some (tyX1 k) := by decide +kernel
abbrev cX1_init : ByteArray := prog_3_method_1_code
def yX1_init : MethodName := ⟨RX1, "<init>", "()V"⟩
abbrev cX1_copyFrom : ByteArray := prog_3_method_2_code
def yX1_copyFrom : MethodName := ⟨RX1, "copyFrom", "(LGoalLifts$Cars;)V"⟩
abbrev cX1_has : ByteArray := prog_3_method_3_code
def yX1_has : MethodName := ⟨RX1, "has", "(I)Z"⟩
abbrev cX1_add : ByteArray := prog_3_method_4_code
def yX1_add : MethodName := ⟨RX1, "add", "(III)I"⟩
abbrev cX1_serves : ByteArray := prog_3_method_5_code
def yX1_serves : MethodName := ⟨RX1, "serves", "(II)Z"⟩
abbrev cX1_travelTowards : ByteArray := prog_3_method_6_code
def yX1_travelTowards : MethodName := ⟨RX1, "travelTowards", "(II)V"⟩
abbrev cX1_numberIn : ByteArray := prog_3_method_7_code
def yX1_numberIn : MethodName := ⟨RX1, "numberIn", "(I)I"⟩
abbrev cX1_travelledByAll : ByteArray := prog_3_method_8_code
def yX1_travelledByAll : MethodName := ⟨RX1, "travelledByAll", "()I"⟩
def RX2 : String := "GoalLifts$History"
def TX2 : u_T := fun k => match k with
  | 0 => ("GoalLifts$History", "count", "I", false)
  | 1 => ("GoalLifts$History", "next", "I", false)
  | _ => ("GoalLifts$History", "states", "[LGoalLifts$House;", true)
def tyX2 : Nat → FieldType := fun k => match k with
  | 0 => .int
  | 1 => .int
  | _ => .array (.object "GoalLifts$House")
abbrev wsX20 : List Cond := u_ws RX2 TX2 3
theorem nmX2 : ∀ a, a < 3 → ∀ b, b < 3 → a ≠ b → (TX2 a).2.1 ≠ (TX2 b).2.1 := by decide +kernel
theorem tyX2_ok : ∀ k, k < 3 → parseFieldDescriptor (TX2 k).2.2.1 = some (tyX2 k) := by decide +kernel
abbrev cX2_init : ByteArray := prog_4_method_1_code
def yX2_init : MethodName := ⟨RX2, "<init>", "()V"⟩
abbrev cX2_keep : ByteArray := prog_4_method_2_code
def yX2_keep : MethodName := ⟨RX2, "keep", "(LGoalLifts$House;)V"⟩
def RX3 : String := "GoalLifts$House"
def TX3 : u_T := fun k => match k with
  | 0 => ("GoalLifts$House", "tick", "I", false)
  | 1 => ("GoalLifts$House", "awake", "[I", true)
  | 2 => ("GoalLifts$House", "cars", "LGoalLifts$Cars;", true)
  | _ => ("GoalLifts$House", "callers", "LGoalLifts$Callers;", true)
def tyX3 : Nat → FieldType := fun k => match k with
  | 0 => .int
  | 1 => .array .int
  | 2 => .object "GoalLifts$Cars"
  | _ => .object "GoalLifts$Callers"
abbrev wsX30 : List Cond := u_ws RX3 TX3 4
theorem nmX3 : ∀ a, a < 4 → ∀ b, b < 4 → a ≠ b → (TX3 a).2.1 ≠ (TX3 b).2.1 := by decide +kernel
theorem tyX3_ok : ∀ k, k < 4 → parseFieldDescriptor (TX3 k).2.2.1 = some (tyX3 k) := by decide +kernel
abbrev cX3_init : ByteArray := prog_5_method_1_code
def yX3_init : MethodName := ⟨RX3, "<init>", "()V"⟩
abbrev cX3_copyFrom : ByteArray := prog_5_method_2_code
def yX3_copyFrom : MethodName := ⟨RX3, "copyFrom", "(LGoalLifts$House;)V"⟩
abbrev cX3_hour : ByteArray := prog_5_method_3_code
def yX3_hour : MethodName := ⟨RX3, "hour", "()I"⟩
abbrev cX3_isAwake : ByteArray := prog_5_method_4_code
def yX3_isAwake : MethodName := ⟨RX3, "isAwake", "(I)Z"⟩
abbrev cX3_canBeGiven : ByteArray := prog_5_method_5_code
def yX3_canBeGiven : MethodName := ⟨RX3, "canBeGiven", "(III)Z"⟩
abbrev cX3_costOf : ByteArray := prog_5_method_6_code
def yX3_costOf : MethodName := ⟨RX3, "costOf", "(III)I"⟩
abbrev cX3_bestCar : ByteArray := prog_5_method_7_code
def yX3_bestCar : MethodName := ⟨RX3, "bestCar", "(II)I"⟩
abbrev cX3_oneTick : ByteArray := prog_5_method_8_code
def yX3_oneTick : MethodName := ⟨RX3, "oneTick", "()V"⟩
abbrev cX3_stopOrTravel : ByteArray := prog_5_method_9_code
def yX3_stopOrTravel : MethodName := ⟨RX3, "stopOrTravel", "(I)V"⟩
abbrev cX3_breakCar : ByteArray := prog_5_method_10_code
def yX3_breakCar : MethodName := ⟨RX3, "breakCar", "(I)V"⟩
def RX4 : String := "GoalLifts"
def TX4 : u_T := fun k => match k with
  | 0 => ("GoalLifts", "house", "LGoalLifts$House;", true)
  | 1 => ("GoalLifts", "forecast", "LGoalLifts$House;", true)
  | _ => ("GoalLifts", "history", "LGoalLifts$History;", true)
def tyX4 : Nat → FieldType := fun k => match k with
  | 0 => .object "GoalLifts$House"
  | 1 => .object "GoalLifts$House"
  | _ => .object "GoalLifts$History"
abbrev wsX40 : List Cond := u_ws RX4 TX4 3
theorem nmX4 : ∀ a, a < 3 → ∀ b, b < 3 → a ≠ b → (TX4 a).2.1 ≠ (TX4 b).2.1 := by decide +kernel
theorem tyX4_ok : ∀ k, k < 3 → parseFieldDescriptor (TX4 k).2.2.1 = some (tyX4 k) := by decide +kernel
abbrev cX4_init : ByteArray := prog_1_method_1_code
def yX4_init : MethodName := ⟨RX4, "<init>", "()V"⟩
abbrev cX4_addCar : ByteArray := prog_1_method_2_code
def yX4_addCar : MethodName := ⟨RX4, "addCar", "(III)I"⟩
abbrev cX4_setAwake : ByteArray := prog_1_method_3_code
def yX4_setAwake : MethodName := ⟨RX4, "setAwake", "(II)I"⟩
abbrev cX4_hold : ByteArray := prog_1_method_4_code
def yX4_hold : MethodName := ⟨RX4, "hold", "(II)I"⟩
abbrev cX4_fail : ByteArray := prog_1_method_5_code
def yX4_fail : MethodName := ⟨RX4, "fail", "(I)I"⟩
abbrev cX4_repair : ByteArray := prog_1_method_6_code
def yX4_repair : MethodName := ⟨RX4, "repair", "(I)I"⟩
abbrev cX4_call : ByteArray := prog_1_method_7_code
def yX4_call : MethodName := ⟨RX4, "call", "(II)I"⟩
abbrev cX4_pass : ByteArray := prog_1_method_8_code
def yX4_pass : MethodName := ⟨RX4, "pass", "(I)I"⟩
abbrev cX4_count : ByteArray := prog_1_method_10_code
def yX4_count : MethodName := ⟨RX4, "count", "(I)I"⟩
abbrev cX4_car : ByteArray := prog_1_method_11_code
def yX4_car : MethodName := ⟨RX4, "car", "(II)I"⟩
abbrev cX4_caller : ByteArray := prog_1_method_12_code
def yX4_caller : MethodName := ⟨RX4, "caller", "(II)I"⟩
abbrev cX4_group : ByteArray := prog_1_method_13_code
def yX4_group : MethodName := ⟨RX4, "group", "(II)I"⟩
abbrev cX4_isFloor : ByteArray := prog_1_method_19_code
def yX4_isFloor : MethodName := ⟨RX4, "isFloor", "(I)Z"⟩
abbrev cX4_isWay : ByteArray := prog_1_method_20_code
def yX4_isWay : MethodName := ⟨RX4, "isWay", "(II)Z"⟩
def RX5 : String := "GoalLiftsModel"
def TX5 : u_T := fun k => match k with
  | _ => ("", "", "", false)
def tyX5 : Nat → FieldType := fun k => match k with
  | _ => .int
abbrev wsX50 : List Cond := u_ws RX5 TX5 0
theorem nmX5 : ∀ a, a < 0 → ∀ b, b < 0 → a ≠ b → (TX5 a).2.1 ≠ (TX5 b).2.1 := by decide +kernel
theorem tyX5_ok : ∀ k, k < 0 → parseFieldDescriptor (TX5 k).2.2.1 = some (tyX5 k) := by decide +kernel
def RJ6 : String := "java/lang/Integer"
def TJ6 : u_T := fun k => match k with
  | _ => ("", "", "", false)
def tyJ6 : Nat → FieldType := fun k => match k with
  | _ => .int
abbrev wsJ60 : List Cond := u_ws RJ6 TJ6 0
theorem nmJ6 : ∀ a, a < 0 → ∀ b, b < 0 → a ≠ b → (TJ6 a).2.1 ≠ (TJ6 b).2.1 := by decide +kernel
theorem tyJ6_ok : ∀ k, k < 0 → parseFieldDescriptor (TJ6 k).2.2.1 = some (tyJ6 k) := by decide +kernel
abbrev cJ6_bitCount_0f7a4 : ByteArray := prog_8_method_49_code
def yJ6_bitCount_0f7a4 : MethodName := ⟨RJ6, "bitCount", "(I)I"⟩
def RJ9 : String := "java/lang/Math"
def TJ9 : u_T := fun k => match k with
  | _ => ("", "", "", false)
def tyJ9 : Nat → FieldType := fun k => match k with
  | _ => .int
abbrev wsJ90 : List Cond := u_ws RJ9 TJ9 0
theorem nmJ9 : ∀ a, a < 0 → ∀ b, b < 0 → a ≠ b → (TJ9 a).2.1 ≠ (TJ9 b).2.1 := by decide +kernel
theorem tyJ9_ok : ∀ k, k < 0 → parseFieldDescriptor (TJ9 k).2.2.1 = some (tyJ9 k) := by decide +kernel
abbrev cJ9_floorMod_7cf53 : ByteArray := prog_9_method_50_code
def yJ9_floorMod_7cf53 : MethodName := ⟨RJ9, "floorMod", "(II)I"⟩
abbrev cJ9_abs_0f7a4 : ByteArray := prog_9_method_59_code
def yJ9_abs_0f7a4 : MethodName := ⟨RJ9, "abs", "(I)I"⟩
abbrev cJ9_min_7cf53 : ByteArray := prog_9_method_69_code
def yJ9_min_7cf53 : MethodName := ⟨RJ9, "min", "(II)I"⟩
def RJ10 : String := "java/lang/System"
def TJ10 : u_T := fun k => match k with
  | _ => ("", "", "", false)
def tyJ10 : Nat → FieldType := fun k => match k with
  | _ => .int
abbrev wsJ100 : List Cond := u_ws RJ10 TJ10 0
theorem nmJ10 : ∀ a, a < 0 → ∀ b, b < 0 → a ≠ b → (TJ10 a).2.1 ≠ (TJ10 b).2.1 := by decide +kernel
theorem tyJ10_ok : ∀ k, k < 0 → parseFieldDescriptor (TJ10 k).2.2.1 = some (tyJ10 k) := by decide +kernel
def RL : String := "GoalLiftsLaw"
abbrev cL_cell : ByteArray := method_2_code
def yL_cell : MethodName := ⟨RL, "cell", "([II)I"⟩
abbrev cL_low : ByteArray := method_3_code
def yL_low : MethodName := ⟨RL, "low", "(II)I"⟩
abbrev cL_is : ByteArray := method_4_code
def yL_is : MethodName := ⟨RL, "is", "(J)I"⟩
abbrev cL_by : ByteArray := method_5_code
def yL_by : MethodName := ⟨RL, "by", "(J)I"⟩
abbrev cL_floor : ByteArray := method_6_code
def yL_floor : MethodName := ⟨RL, "floor", "(J)I"⟩
abbrev cL_goal : ByteArray := method_7_code
def yL_goal : MethodName := ⟨RL, "goal", "(J)I"⟩
abbrev cL_far : ByteArray := method_8_code
def yL_far : MethodName := ⟨RL, "far", "(II)I"⟩
abbrev cL_those : ByteArray := method_9_code
def yL_those : MethodName := ⟨RL, "those", "([I[JII)I"⟩
abbrev cL_stops : ByteArray := method_10_code
def yL_stops : MethodName := ⟨RL, "stops", "([I[JII)I"⟩
abbrev cL_cost : ByteArray := method_11_code
def yL_cost : MethodName := ⟨RL, "cost", "([I[I[I[JIII)I"⟩
abbrev cL_which : ByteArray := method_12_code
def yL_which : MethodName := ⟨RL, "which", "([I[I[I[JII)I"⟩
abbrev cL_gives : ByteArray := method_13_code
def yL_gives : MethodName := ⟨RL, "gives", "([I[I[I[JI)V"⟩
abbrev cL_aim : ByteArray := method_14_code
def yL_aim : MethodName := ⟨RL, "aim", "([I[I[JI)I"⟩
abbrev cL_goes : ByteArray := method_15_code
def yL_goes : MethodName := ⟨RL, "goes", "([I[I[J[JI)V"⟩
abbrev cL_tick : ByteArray := method_16_code
def yL_tick : MethodName := ⟨RL, "tick", "([I[I[I[J[J)V"⟩
abbrev cL_fails : ByteArray := method_17_code
def yL_fails : MethodName := ⟨RL, "fails", "([I[I[J[JI)V"⟩
abbrev cL_cars : ByteArray := method_18_code
def yL_cars : MethodName := ⟨RL, "cars", "(LGoalLifts;[I[I[I[J[JII)Z"⟩
abbrev cL_acts : ByteArray := method_19_code
def yL_acts : MethodName := ⟨RL, "acts", "(LGoalLifts;[I[I[I[J[JI)Z"⟩
abbrev cL_isSo : ByteArray := method_20_code
def yL_isSo : MethodName := ⟨RL, "isSo", "(LGoalLifts;[I[I[I[J[J)Z"⟩
abbrev cL_law : ByteArray := code
def yL_law : MethodName := ⟨RL, "law", "([I)Z"⟩
def wsX0_init : List Cond := .code yX0_init cX0_init 1 none :: ([.methodLink RX0 3 objectInit, .instanceMethod objectInit, .code objectInit ⟨#[0xb1]⟩ 1 none, .arrayClass .int, .fieldLink RX0 9 "GoalLifts$Callers" "floor" "[I", .fieldLink RX0 15 "GoalLifts$Callers" "goal" "[I", .fieldLink RX0 18 "GoalLifts$Callers" "phase" "[I", .fieldLink RX0 21 "GoalLifts$Callers" "given" "[I", .fieldLink RX0 24 "GoalLifts$Callers" "calledAt" "[I", .fieldLink RX0 27 "GoalLifts$Callers" "rodeAt" "[I", .fieldLink RX0 30 "GoalLifts$Callers" "thereAt" "[I", .fieldLink RX0 33 "GoalLifts$Callers" "timesGiven" "[I"] ++ wsX00)
def wsX0_copyFrom : List Cond := .code yX0_copyFrom cX0_copyFrom 2 none :: ([.fieldLink RX0 36 "GoalLifts$Callers" "count" "I", .fieldLink RX0 9 "GoalLifts$Callers" "floor" "[I", .methodLink RX0 40 arraycopyName, .native arraycopyName, .static arraycopyName, .initialized "java/lang/System", .fieldLink RX0 15 "GoalLifts$Callers" "goal" "[I", .fieldLink RX0 18 "GoalLifts$Callers" "phase" "[I", .fieldLink RX0 21 "GoalLifts$Callers" "given" "[I", .fieldLink RX0 24 "GoalLifts$Callers" "calledAt" "[I", .fieldLink RX0 27 "GoalLifts$Callers" "rodeAt" "[I", .fieldLink RX0 30 "GoalLifts$Callers" "thereAt" "[I", .fieldLink RX0 33 "GoalLifts$Callers" "timesGiven" "[I"] ++ wsX00)
def wsX0_has : List Cond := .code yX0_has cX0_has 2 (some .boolean) :: ([.fieldLink RX0 36 "GoalLifts$Callers" "count" "I"] ++ wsX00)
def wsX0_add : List Cond := .code yX0_add cX0_add 5 (some .int) :: ([.fieldLink RX0 36 "GoalLifts$Callers" "count" "I", .fieldLink RX0 9 "GoalLifts$Callers" "floor" "[I", .fieldLink RX0 15 "GoalLifts$Callers" "goal" "[I", .fieldLink RX0 18 "GoalLifts$Callers" "phase" "[I", .fieldLink RX0 21 "GoalLifts$Callers" "given" "[I", .fieldLink RX0 24 "GoalLifts$Callers" "calledAt" "[I", .fieldLink RX0 27 "GoalLifts$Callers" "rodeAt" "[I", .fieldLink RX0 30 "GoalLifts$Callers" "thereAt" "[I", .fieldLink RX0 33 "GoalLifts$Callers" "timesGiven" "[I"] ++ wsX00)
def wsX0_give : List Cond := .code yX0_give cX0_give 3 none :: ([.fieldLink RX0 18 "GoalLifts$Callers" "phase" "[I", .fieldLink RX0 21 "GoalLifts$Callers" "given" "[I", .fieldLink RX0 33 "GoalLifts$Callers" "timesGiven" "[I", .methodLink RX0 46 yX0_has, .instanceMethod yX0_has, .selects RX0 yX0_has yX0_has, .initialized RX0, .code yX0_has cX0_has 2 (some .boolean), .fieldLink RX0 36 "GoalLifts$Callers" "count" "I"] ++ wsX00)
def wsX0_rides : List Cond := .code yX0_rides cX0_rides 3 (some .boolean) :: ([.fieldLink RX0 18 "GoalLifts$Callers" "phase" "[I", .fieldLink RX0 21 "GoalLifts$Callers" "given" "[I"] ++ wsX00)
def wsX0_waitsFor : List Cond := .code yX0_waitsFor cX0_waitsFor 3 (some .boolean) :: ([.fieldLink RX0 18 "GoalLifts$Callers" "phase" "[I", .fieldLink RX0 21 "GoalLifts$Callers" "given" "[I"] ++ wsX00)
def wsX0_numberIn : List Cond := .code yX0_numberIn cX0_numberIn 4 (some .int) :: ([.fieldLink RX0 36 "GoalLifts$Callers" "count" "I", .fieldLink RX0 18 "GoalLifts$Callers" "phase" "[I"] ++ wsX00)
def wsX0_numberOf : List Cond := .code yX0_numberOf cX0_numberOf 5 (some .int) :: ([.fieldLink RX0 36 "GoalLifts$Callers" "count" "I", .fieldLink RX0 18 "GoalLifts$Callers" "phase" "[I", .fieldLink RX0 21 "GoalLifts$Callers" "given" "[I"] ++ wsX00)
def wsX0_numberWith : List Cond := .code yX0_numberWith cX0_numberWith 2 (some .int) :: ([.methodLink RX0 50 yX0_numberOf, .instanceMethod yX0_numberOf, .selects RX0 yX0_numberOf yX0_numberOf, .initialized RX0, .code yX0_numberOf cX0_numberOf 5 (some .int), .fieldLink RX0 36 "GoalLifts$Callers" "count" "I", .fieldLink RX0 18 "GoalLifts$Callers" "phase" "[I", .fieldLink RX0 21 "GoalLifts$Callers" "given" "[I"] ++ wsX00)
def wsX0_stopsOf : List Cond := .code yX0_stopsOf cX0_stopsOf 4 (some .int) :: ([.fieldLink RX0 36 "GoalLifts$Callers" "count" "I", .fieldLink RX0 9 "GoalLifts$Callers" "floor" "[I", .fieldLink RX0 15 "GoalLifts$Callers" "goal" "[I", .methodLink RX0 54 yX0_waitsFor, .instanceMethod yX0_waitsFor, .selects RX0 yX0_waitsFor yX0_waitsFor, .initialized RX0, .code yX0_waitsFor cX0_waitsFor 3 (some .boolean), .fieldLink RX0 18 "GoalLifts$Callers" "phase" "[I", .fieldLink RX0 21 "GoalLifts$Callers" "given" "[I", .methodLink RX0 58 yX0_rides, .instanceMethod yX0_rides, .selects RX0 yX0_rides yX0_rides, .code yX0_rides cX0_rides 3 (some .boolean)] ++ wsX00)
def wsX0_isNearer : List Cond := .code yX0_isNearer cX0_isNearer 5 (some .boolean) :: ([.methodLink RX0 65 Lib.Math.abs.name, .static Lib.Math.abs.name, .initialized "java/lang/Math", .code Lib.Math.abs.name Lib.Math.abs.code 1 (some .int)])
def wsX0_aimOf : List Cond := .code yX0_aimOf cX0_aimOf 6 (some .int) :: ([.fieldLink RX0 36 "GoalLifts$Callers" "count" "I", .fieldLink RX0 15 "GoalLifts$Callers" "goal" "[I", .fieldLink RX0 9 "GoalLifts$Callers" "floor" "[I", .methodLink RX0 58 yX0_rides, .instanceMethod yX0_rides, .selects RX0 yX0_rides yX0_rides, .initialized RX0, .code yX0_rides cX0_rides 3 (some .boolean), .fieldLink RX0 18 "GoalLifts$Callers" "phase" "[I", .fieldLink RX0 21 "GoalLifts$Callers" "given" "[I", .methodLink RX0 61 yX0_isNearer, .static yX0_isNearer, .code yX0_isNearer cX0_isNearer 5 (some .boolean), .methodLink RX0 65 Lib.Math.abs.name, .static Lib.Math.abs.name, .initialized "java/lang/Math", .code Lib.Math.abs.name Lib.Math.abs.code 1 (some .int), .methodLink RX0 54 yX0_waitsFor, .instanceMethod yX0_waitsFor, .selects RX0 yX0_waitsFor yX0_waitsFor, .code yX0_waitsFor cX0_waitsFor 3 (some .boolean)] ++ wsX00)
def wsX0_letOut : List Cond := .code yX0_letOut cX0_letOut 6 (some .int) :: ([.fieldLink RX0 36 "GoalLifts$Callers" "count" "I", .fieldLink RX0 15 "GoalLifts$Callers" "goal" "[I", .fieldLink RX0 18 "GoalLifts$Callers" "phase" "[I", .fieldLink RX0 30 "GoalLifts$Callers" "thereAt" "[I", .methodLink RX0 58 yX0_rides, .instanceMethod yX0_rides, .selects RX0 yX0_rides yX0_rides, .initialized RX0, .code yX0_rides cX0_rides 3 (some .boolean), .fieldLink RX0 21 "GoalLifts$Callers" "given" "[I"] ++ wsX00)
def wsX0_takeIn : List Cond := .code yX0_takeIn cX0_takeIn 8 (some .int) :: ([.fieldLink RX0 36 "GoalLifts$Callers" "count" "I", .fieldLink RX0 9 "GoalLifts$Callers" "floor" "[I", .fieldLink RX0 18 "GoalLifts$Callers" "phase" "[I", .fieldLink RX0 27 "GoalLifts$Callers" "rodeAt" "[I", .methodLink RX0 50 yX0_numberOf, .instanceMethod yX0_numberOf, .selects RX0 yX0_numberOf yX0_numberOf, .initialized RX0, .code yX0_numberOf cX0_numberOf 5 (some .int), .fieldLink RX0 21 "GoalLifts$Callers" "given" "[I", .methodLink RX0 54 yX0_waitsFor, .instanceMethod yX0_waitsFor, .selects RX0 yX0_waitsFor yX0_waitsFor, .code yX0_waitsFor cX0_waitsFor 3 (some .boolean)] ++ wsX00)
def wsX0_loseCar : List Cond := .code yX0_loseCar cX0_loseCar 6 none :: ([.fieldLink RX0 36 "GoalLifts$Callers" "count" "I", .fieldLink RX0 9 "GoalLifts$Callers" "floor" "[I", .fieldLink RX0 15 "GoalLifts$Callers" "goal" "[I", .fieldLink RX0 18 "GoalLifts$Callers" "phase" "[I", .fieldLink RX0 30 "GoalLifts$Callers" "thereAt" "[I", .fieldLink RX0 21 "GoalLifts$Callers" "given" "[I", .methodLink RX0 58 yX0_rides, .instanceMethod yX0_rides, .selects RX0 yX0_rides yX0_rides, .initialized RX0, .code yX0_rides cX0_rides 3 (some .boolean), .methodLink RX0 54 yX0_waitsFor, .instanceMethod yX0_waitsFor, .selects RX0 yX0_waitsFor yX0_waitsFor, .code yX0_waitsFor cX0_waitsFor 3 (some .boolean)] ++ wsX00)
def wsX0_isInGroup : List Cond := .code yX0_isInGroup cX0_isInGroup 2 (some .boolean) :: ([.fieldLink RX0 18 "GoalLifts$Callers" "phase" "[I"] ++ wsX00)
def wsX0_sameGroup : List Cond := .code yX0_sameGroup cX0_sameGroup 3 (some .boolean) :: ([.fieldLink RX0 9 "GoalLifts$Callers" "floor" "[I", .fieldLink RX0 15 "GoalLifts$Callers" "goal" "[I", .methodLink RX0 71 yX0_isInGroup, .instanceMethod yX0_isInGroup, .selects RX0 yX0_isInGroup yX0_isInGroup, .initialized RX0, .code yX0_isInGroup cX0_isInGroup 2 (some .boolean), .fieldLink RX0 18 "GoalLifts$Callers" "phase" "[I"] ++ wsX00)
def wsX0_isFirstOfGroup : List Cond := .code yX0_isFirstOfGroup cX0_isFirstOfGroup 3 (some .boolean) :: ([.methodLink RX0 74 yX0_sameGroup, .instanceMethod yX0_sameGroup, .selects RX0 yX0_sameGroup yX0_sameGroup, .initialized RX0, .code yX0_sameGroup cX0_sameGroup 3 (some .boolean), .fieldLink RX0 9 "GoalLifts$Callers" "floor" "[I", .fieldLink RX0 15 "GoalLifts$Callers" "goal" "[I", .methodLink RX0 71 yX0_isInGroup, .instanceMethod yX0_isInGroup, .selects RX0 yX0_isInGroup yX0_isInGroup, .code yX0_isInGroup cX0_isInGroup 2 (some .boolean), .fieldLink RX0 18 "GoalLifts$Callers" "phase" "[I"] ++ wsX00)
def wsX0_numberOfGroups : List Cond := .code yX0_numberOfGroups cX0_numberOfGroups 3 (some .int) :: ([.fieldLink RX0 36 "GoalLifts$Callers" "count" "I", .methodLink RX0 77 yX0_isFirstOfGroup, .instanceMethod yX0_isFirstOfGroup, .selects RX0 yX0_isFirstOfGroup yX0_isFirstOfGroup, .initialized RX0, .code yX0_isFirstOfGroup cX0_isFirstOfGroup 3 (some .boolean), .methodLink RX0 74 yX0_sameGroup, .instanceMethod yX0_sameGroup, .selects RX0 yX0_sameGroup yX0_sameGroup, .code yX0_sameGroup cX0_sameGroup 3 (some .boolean), .fieldLink RX0 9 "GoalLifts$Callers" "floor" "[I", .fieldLink RX0 15 "GoalLifts$Callers" "goal" "[I", .methodLink RX0 71 yX0_isInGroup, .instanceMethod yX0_isInGroup, .selects RX0 yX0_isInGroup yX0_isInGroup, .code yX0_isInGroup cX0_isInGroup 2 (some .boolean), .fieldLink RX0 18 "GoalLifts$Callers" "phase" "[I"] ++ wsX00)
def wsX0_firstOfGroup : List Cond := .code yX0_firstOfGroup cX0_firstOfGroup 4 (some .int) :: ([.fieldLink RX0 36 "GoalLifts$Callers" "count" "I", .methodLink RX0 77 yX0_isFirstOfGroup, .instanceMethod yX0_isFirstOfGroup, .selects RX0 yX0_isFirstOfGroup yX0_isFirstOfGroup, .initialized RX0, .code yX0_isFirstOfGroup cX0_isFirstOfGroup 3 (some .boolean), .methodLink RX0 74 yX0_sameGroup, .instanceMethod yX0_sameGroup, .selects RX0 yX0_sameGroup yX0_sameGroup, .code yX0_sameGroup cX0_sameGroup 3 (some .boolean), .fieldLink RX0 9 "GoalLifts$Callers" "floor" "[I", .fieldLink RX0 15 "GoalLifts$Callers" "goal" "[I", .methodLink RX0 71 yX0_isInGroup, .instanceMethod yX0_isInGroup, .selects RX0 yX0_isInGroup yX0_isInGroup, .code yX0_isInGroup cX0_isInGroup 2 (some .boolean), .fieldLink RX0 18 "GoalLifts$Callers" "phase" "[I"] ++ wsX00)
def wsX0_sizeOfGroup : List Cond := .code yX0_sizeOfGroup cX0_sizeOfGroup 4 (some .int) :: ([.fieldLink RX0 36 "GoalLifts$Callers" "count" "I", .methodLink RX0 74 yX0_sameGroup, .instanceMethod yX0_sameGroup, .selects RX0 yX0_sameGroup yX0_sameGroup, .initialized RX0, .code yX0_sameGroup cX0_sameGroup 3 (some .boolean), .fieldLink RX0 9 "GoalLifts$Callers" "floor" "[I", .fieldLink RX0 15 "GoalLifts$Callers" "goal" "[I", .methodLink RX0 71 yX0_isInGroup, .instanceMethod yX0_isInGroup, .selects RX0 yX0_isInGroup yX0_isInGroup, .code yX0_isInGroup cX0_isInGroup 2 (some .boolean), .fieldLink RX0 18 "GoalLifts$Callers" "phase" "[I"] ++ wsX00)
def wsX1_init : List Cond := .code yX1_init cX1_init 1 none :: ([.methodLink RX1 3 objectInit, .instanceMethod objectInit, .code objectInit ⟨#[0xb1]⟩ 1 none, .arrayClass .int, .fieldLink RX1 9 "GoalLifts$Cars" "lowest" "[I", .fieldLink RX1 15 "GoalLifts$Cars" "highest" "[I", .fieldLink RX1 18 "GoalLifts$Cars" "places" "[I", .fieldLink RX1 21 "GoalLifts$Cars" "floor" "[I", .fieldLink RX1 24 "GoalLifts$Cars" "state" "[I", .fieldLink RX1 27 "GoalLifts$Cars" "travelled" "[I"] ++ wsX10)
def wsX1_copyFrom : List Cond := .code yX1_copyFrom cX1_copyFrom 2 none :: ([.fieldLink RX1 30 "GoalLifts$Cars" "count" "I", .fieldLink RX1 34 "GoalLifts$Cars" "stopsMade" "I", .fieldLink RX1 9 "GoalLifts$Cars" "lowest" "[I", .methodLink RX1 37 arraycopyName, .native arraycopyName, .static arraycopyName, .initialized "java/lang/System", .fieldLink RX1 15 "GoalLifts$Cars" "highest" "[I", .fieldLink RX1 18 "GoalLifts$Cars" "places" "[I", .fieldLink RX1 21 "GoalLifts$Cars" "floor" "[I", .fieldLink RX1 24 "GoalLifts$Cars" "state" "[I", .fieldLink RX1 27 "GoalLifts$Cars" "travelled" "[I"] ++ wsX10)
def wsX1_has : List Cond := .code yX1_has cX1_has 2 (some .boolean) :: ([.fieldLink RX1 30 "GoalLifts$Cars" "count" "I"] ++ wsX10)
def wsX1_add : List Cond := .code yX1_add cX1_add 5 (some .int) :: ([.fieldLink RX1 30 "GoalLifts$Cars" "count" "I", .fieldLink RX1 9 "GoalLifts$Cars" "lowest" "[I", .fieldLink RX1 15 "GoalLifts$Cars" "highest" "[I", .fieldLink RX1 18 "GoalLifts$Cars" "places" "[I", .fieldLink RX1 21 "GoalLifts$Cars" "floor" "[I", .fieldLink RX1 24 "GoalLifts$Cars" "state" "[I", .fieldLink RX1 27 "GoalLifts$Cars" "travelled" "[I"] ++ wsX10)
def wsX1_serves : List Cond := .code yX1_serves cX1_serves 3 (some .boolean) :: ([.fieldLink RX1 9 "GoalLifts$Cars" "lowest" "[I", .fieldLink RX1 15 "GoalLifts$Cars" "highest" "[I"] ++ wsX10)
def wsX1_travelTowards : List Cond := .code yX1_travelTowards cX1_travelTowards 3 none :: ([.fieldLink RX1 21 "GoalLifts$Cars" "floor" "[I", .fieldLink RX1 27 "GoalLifts$Cars" "travelled" "[I"] ++ wsX10)
def wsX1_numberIn : List Cond := .code yX1_numberIn cX1_numberIn 4 (some .int) :: ([.fieldLink RX1 30 "GoalLifts$Cars" "count" "I", .fieldLink RX1 24 "GoalLifts$Cars" "state" "[I"] ++ wsX10)
def wsX1_travelledByAll : List Cond := .code yX1_travelledByAll cX1_travelledByAll 3 (some .int) :: ([.fieldLink RX1 30 "GoalLifts$Cars" "count" "I", .fieldLink RX1 27 "GoalLifts$Cars" "travelled" "[I"] ++ wsX10)
def wsX3_init_r1 : List Cond := [Cond.methodLink RX3 3 objectInit, Cond.instanceMethod objectInit, Cond.code objectInit ⟨#[0xb1]⟩ 1 none, Cond.arrayClass .int, Cond.fieldLink RX3 9 "GoalLifts$House" "awake" "[I", Cond.classLink RX3 15 RX1, Cond.instantiable RX1 8, Cond.initialized RX1, Cond.fieldLink RX3 18 "GoalLifts$House" "cars" "LGoalLifts$Cars;", Cond.classLink RX3 22 RX0, Cond.instantiable RX0 9, Cond.initialized RX0, Cond.fieldLink RX3 25 "GoalLifts$House" "callers" "LGoalLifts$Callers;", Cond.instanceMethod yX1_init, Cond.code yX1_init cX1_init 1 none, Cond.methodLink RX1 3 objectInit, Cond.fieldLink RX1 9 "GoalLifts$Cars" "lowest" "[I", Cond.fieldLink RX1 15 "GoalLifts$Cars" "highest" "[I", Cond.fieldLink RX1 18 "GoalLifts$Cars" "places" "[I", Cond.fieldLink RX1 21 "GoalLifts$Cars" "floor" "[I", Cond.fieldLink RX1 24 "GoalLifts$Cars" "state" "[I", Cond.fieldLink RX1 27 "GoalLifts$Cars" "travelled" "[I", Cond.instanceMethod yX0_init, Cond.code yX0_init cX0_init 1 none]
def wsX3_init_r2 : List Cond := [Cond.methodLink RX0 3 objectInit, Cond.fieldLink RX0 9 "GoalLifts$Callers" "floor" "[I", Cond.fieldLink RX0 15 "GoalLifts$Callers" "goal" "[I", Cond.fieldLink RX0 18 "GoalLifts$Callers" "phase" "[I", Cond.fieldLink RX0 21 "GoalLifts$Callers" "given" "[I", Cond.fieldLink RX0 24 "GoalLifts$Callers" "calledAt" "[I", Cond.fieldLink RX0 27 "GoalLifts$Callers" "rodeAt" "[I", Cond.fieldLink RX0 30 "GoalLifts$Callers" "thereAt" "[I", Cond.fieldLink RX0 33 "GoalLifts$Callers" "timesGiven" "[I"]
def wsX3_init : List Cond := .code yX3_init cX3_init 2 none :: ((wsX3_init_r1 ++ wsX3_init_r2) ++ wsX30 ++ wsX10 ++ wsX00)
def wsX2_init_r1 : List Cond := [Cond.methodLink RX2 3 objectInit, Cond.instanceMethod objectInit, Cond.code objectInit ⟨#[0xb1]⟩ 1 none, Cond.classLink RX2 9 RX3, Cond.fieldLink RX2 11 "GoalLifts$History" "states" "[LGoalLifts$House;", Cond.instantiable RX3 4, Cond.initialized RX3, Cond.methodLink RX2 17 yX3_init, Cond.instanceMethod yX3_init, Cond.code yX3_init cX3_init 2 none, Cond.methodLink RX3 3 objectInit, Cond.arrayClass .int, Cond.fieldLink RX3 9 "GoalLifts$House" "awake" "[I", Cond.classLink RX3 15 RX1, Cond.instantiable RX1 8, Cond.initialized RX1, Cond.fieldLink RX3 18 "GoalLifts$House" "cars" "LGoalLifts$Cars;", Cond.classLink RX3 22 RX0, Cond.instantiable RX0 9, Cond.initialized RX0, Cond.fieldLink RX3 25 "GoalLifts$House" "callers" "LGoalLifts$Callers;", Cond.instanceMethod yX1_init, Cond.code yX1_init cX1_init 1 none, Cond.methodLink RX1 3 objectInit]
def wsX2_init_r2 : List Cond := [Cond.fieldLink RX1 9 "GoalLifts$Cars" "lowest" "[I", Cond.fieldLink RX1 15 "GoalLifts$Cars" "highest" "[I", Cond.fieldLink RX1 18 "GoalLifts$Cars" "places" "[I", Cond.fieldLink RX1 21 "GoalLifts$Cars" "floor" "[I", Cond.fieldLink RX1 24 "GoalLifts$Cars" "state" "[I", Cond.fieldLink RX1 27 "GoalLifts$Cars" "travelled" "[I", Cond.instanceMethod yX0_init, Cond.code yX0_init cX0_init 1 none, Cond.methodLink RX0 3 objectInit, Cond.fieldLink RX0 9 "GoalLifts$Callers" "floor" "[I", Cond.fieldLink RX0 15 "GoalLifts$Callers" "goal" "[I", Cond.fieldLink RX0 18 "GoalLifts$Callers" "phase" "[I", Cond.fieldLink RX0 21 "GoalLifts$Callers" "given" "[I", Cond.fieldLink RX0 24 "GoalLifts$Callers" "calledAt" "[I", Cond.fieldLink RX0 27 "GoalLifts$Callers" "rodeAt" "[I", Cond.fieldLink RX0 30 "GoalLifts$Callers" "thereAt" "[I", Cond.fieldLink RX0 33 "GoalLifts$Callers" "timesGiven" "[I"]
def wsX2_init : List Cond := .code yX2_init cX2_init 2 none :: ((wsX2_init_r1 ++ wsX2_init_r2) ++ wsX20 ++ wsX30 ++ wsX10 ++ wsX00)
def wsX3_copyFrom_r1 : List Cond := [Cond.fieldLink RX3 29 "GoalLifts$House" "tick" "I", Cond.fieldLink RX3 9 "GoalLifts$House" "awake" "[I", Cond.methodLink RX3 33 arraycopyName, Cond.native arraycopyName, Cond.static arraycopyName, Cond.initialized "java/lang/System", Cond.fieldLink RX3 18 "GoalLifts$House" "cars" "LGoalLifts$Cars;", Cond.fieldLink RX3 25 "GoalLifts$House" "callers" "LGoalLifts$Callers;", Cond.methodLink RX3 39 yX1_copyFrom, Cond.instanceMethod yX1_copyFrom, Cond.selects RX1 yX1_copyFrom yX1_copyFrom, Cond.initialized RX1, Cond.code yX1_copyFrom cX1_copyFrom 2 none, Cond.fieldLink RX1 30 "GoalLifts$Cars" "count" "I", Cond.fieldLink RX1 34 "GoalLifts$Cars" "stopsMade" "I", Cond.fieldLink RX1 9 "GoalLifts$Cars" "lowest" "[I", Cond.methodLink RX1 37 arraycopyName, Cond.fieldLink RX1 15 "GoalLifts$Cars" "highest" "[I", Cond.fieldLink RX1 18 "GoalLifts$Cars" "places" "[I", Cond.fieldLink RX1 21 "GoalLifts$Cars" "floor" "[I", Cond.fieldLink RX1 24 "GoalLifts$Cars" "state" "[I", Cond.fieldLink RX1 27 "GoalLifts$Cars" "travelled" "[I", Cond.methodLink RX3 43 yX0_copyFrom, Cond.instanceMethod yX0_copyFrom]
def wsX3_copyFrom_r2 : List Cond := [Cond.selects RX0 yX0_copyFrom yX0_copyFrom, Cond.initialized RX0, Cond.code yX0_copyFrom cX0_copyFrom 2 none, Cond.fieldLink RX0 36 "GoalLifts$Callers" "count" "I", Cond.fieldLink RX0 9 "GoalLifts$Callers" "floor" "[I", Cond.methodLink RX0 40 arraycopyName, Cond.fieldLink RX0 15 "GoalLifts$Callers" "goal" "[I", Cond.fieldLink RX0 18 "GoalLifts$Callers" "phase" "[I", Cond.fieldLink RX0 21 "GoalLifts$Callers" "given" "[I", Cond.fieldLink RX0 24 "GoalLifts$Callers" "calledAt" "[I", Cond.fieldLink RX0 27 "GoalLifts$Callers" "rodeAt" "[I", Cond.fieldLink RX0 30 "GoalLifts$Callers" "thereAt" "[I", Cond.fieldLink RX0 33 "GoalLifts$Callers" "timesGiven" "[I"]
def wsX3_copyFrom : List Cond := .code yX3_copyFrom cX3_copyFrom 2 none :: ((wsX3_copyFrom_r1 ++ wsX3_copyFrom_r2) ++ wsX30 ++ wsX10 ++ wsX00)
def wsJ9_floorMod_7cf53 : List Cond := .code yJ9_floorMod_7cf53 cJ9_floorMod_7cf53 3 (some .int) :: ([])
def wsX2_keep_r1 : List Cond := [Cond.fieldLink RX2 11 "GoalLifts$History" "states" "[LGoalLifts$House;", Cond.fieldLink RX2 18 "GoalLifts$History" "next" "I", Cond.fieldLink RX2 32 "GoalLifts$History" "count" "I", Cond.methodLink RX2 35 Lib.Math.min.name, Cond.static Lib.Math.min.name, Cond.initialized "java/lang/Math", Cond.code Lib.Math.min.name Lib.Math.min.code 2 (some .int), Cond.methodLink RX2 22 yX3_copyFrom, Cond.instanceMethod yX3_copyFrom, Cond.selects RX3 yX3_copyFrom yX3_copyFrom, Cond.initialized RX3, Cond.code yX3_copyFrom cX3_copyFrom 2 none, Cond.fieldLink RX3 29 "GoalLifts$House" "tick" "I", Cond.fieldLink RX3 9 "GoalLifts$House" "awake" "[I", Cond.methodLink RX3 33 arraycopyName, Cond.native arraycopyName, Cond.static arraycopyName, Cond.initialized "java/lang/System", Cond.fieldLink RX3 18 "GoalLifts$House" "cars" "LGoalLifts$Cars;", Cond.fieldLink RX3 25 "GoalLifts$House" "callers" "LGoalLifts$Callers;", Cond.methodLink RX3 39 yX1_copyFrom, Cond.instanceMethod yX1_copyFrom, Cond.selects RX1 yX1_copyFrom yX1_copyFrom, Cond.initialized RX1]
def wsX2_keep_r2 : List Cond := [Cond.code yX1_copyFrom cX1_copyFrom 2 none, Cond.fieldLink RX1 30 "GoalLifts$Cars" "count" "I", Cond.fieldLink RX1 34 "GoalLifts$Cars" "stopsMade" "I", Cond.fieldLink RX1 9 "GoalLifts$Cars" "lowest" "[I", Cond.methodLink RX1 37 arraycopyName, Cond.fieldLink RX1 15 "GoalLifts$Cars" "highest" "[I", Cond.fieldLink RX1 18 "GoalLifts$Cars" "places" "[I", Cond.fieldLink RX1 21 "GoalLifts$Cars" "floor" "[I", Cond.fieldLink RX1 24 "GoalLifts$Cars" "state" "[I", Cond.fieldLink RX1 27 "GoalLifts$Cars" "travelled" "[I", Cond.methodLink RX3 43 yX0_copyFrom, Cond.instanceMethod yX0_copyFrom, Cond.selects RX0 yX0_copyFrom yX0_copyFrom, Cond.initialized RX0, Cond.code yX0_copyFrom cX0_copyFrom 2 none, Cond.fieldLink RX0 36 "GoalLifts$Callers" "count" "I", Cond.fieldLink RX0 9 "GoalLifts$Callers" "floor" "[I", Cond.methodLink RX0 40 arraycopyName, Cond.fieldLink RX0 15 "GoalLifts$Callers" "goal" "[I", Cond.fieldLink RX0 18 "GoalLifts$Callers" "phase" "[I", Cond.fieldLink RX0 21 "GoalLifts$Callers" "given" "[I", Cond.fieldLink RX0 24 "GoalLifts$Callers" "calledAt" "[I", Cond.fieldLink RX0 27 "GoalLifts$Callers" "rodeAt" "[I", Cond.fieldLink RX0 30 "GoalLifts$Callers" "thereAt" "[I"]
def wsX2_keep_r3 : List Cond := [Cond.fieldLink RX0 33 "GoalLifts$Callers" "timesGiven" "[I", Cond.methodLink RX2 26 yJ9_floorMod_7cf53, Cond.static yJ9_floorMod_7cf53, Cond.initialized RJ9, Cond.code yJ9_floorMod_7cf53 cJ9_floorMod_7cf53 3 (some .int)]
def wsX2_keep : List Cond := .code yX2_keep cX2_keep 3 none :: ((wsX2_keep_r1 ++ (wsX2_keep_r2 ++ wsX2_keep_r3)) ++ wsX20 ++ wsX30 ++ wsX10 ++ wsX00)
def wsX3_hour : List Cond := .code yX3_hour cX3_hour 1 (some .int) :: ([.fieldLink RX3 29 "GoalLifts$House" "tick" "I"] ++ wsX30)
def wsX3_isAwake : List Cond := .code yX3_isAwake cX3_isAwake 2 (some .boolean) :: ([.fieldLink RX3 9 "GoalLifts$House" "awake" "[I", .methodLink RX3 46 yX3_hour, .instanceMethod yX3_hour, .selects RX3 yX3_hour yX3_hour, .initialized RX3, .code yX3_hour cX3_hour 1 (some .int), .fieldLink RX3 29 "GoalLifts$House" "tick" "I"] ++ wsX30)
def wsX3_canBeGiven : List Cond := .code yX3_canBeGiven cX3_canBeGiven 4 (some .boolean) :: ([.fieldLink RX3 18 "GoalLifts$House" "cars" "LGoalLifts$Cars;", .fieldLink RX3 50 "GoalLifts$Cars" "state" "[I", .methodLink RX3 53 yX3_isAwake, .instanceMethod yX3_isAwake, .selects RX3 yX3_isAwake yX3_isAwake, .initialized RX3, .code yX3_isAwake cX3_isAwake 2 (some .boolean), .fieldLink RX3 9 "GoalLifts$House" "awake" "[I", .methodLink RX3 46 yX3_hour, .instanceMethod yX3_hour, .selects RX3 yX3_hour yX3_hour, .code yX3_hour cX3_hour 1 (some .int), .fieldLink RX3 29 "GoalLifts$House" "tick" "I", .methodLink RX3 57 yX1_serves, .instanceMethod yX1_serves, .selects RX1 yX1_serves yX1_serves, .initialized RX1, .code yX1_serves cX1_serves 3 (some .boolean), .fieldLink RX1 9 "GoalLifts$Cars" "lowest" "[I", .fieldLink RX1 15 "GoalLifts$Cars" "highest" "[I"] ++ wsX30 ++ wsX10)
def wsJ6_bitCount_0f7a4 : List Cond := .code yJ6_bitCount_0f7a4 cJ6_bitCount_0f7a4 1 (some .int) :: ([.constant RJ6 265 (1431655765), .constant RJ6 266 (858993459), .constant RJ6 267 (252645135)])
def wsX3_costOf_r1 : List Cond := [Cond.fieldLink RX3 18 "GoalLifts$House" "cars" "LGoalLifts$Cars;", Cond.fieldLink RX3 61 "GoalLifts$Cars" "floor" "[I", Cond.methodLink RX3 64 Lib.Math.abs.name, Cond.static Lib.Math.abs.name, Cond.initialized "java/lang/Math", Cond.code Lib.Math.abs.name Lib.Math.abs.code 1 (some .int), Cond.fieldLink RX3 25 "GoalLifts$House" "callers" "LGoalLifts$Callers;", Cond.methodLink RX3 70 yX0_stopsOf, Cond.instanceMethod yX0_stopsOf, Cond.selects RX0 yX0_stopsOf yX0_stopsOf, Cond.initialized RX0, Cond.code yX0_stopsOf cX0_stopsOf 4 (some .int), Cond.fieldLink RX0 36 "GoalLifts$Callers" "count" "I", Cond.fieldLink RX0 9 "GoalLifts$Callers" "floor" "[I", Cond.fieldLink RX0 15 "GoalLifts$Callers" "goal" "[I", Cond.methodLink RX0 54 yX0_waitsFor, Cond.instanceMethod yX0_waitsFor, Cond.selects RX0 yX0_waitsFor yX0_waitsFor, Cond.code yX0_waitsFor cX0_waitsFor 3 (some .boolean), Cond.fieldLink RX0 18 "GoalLifts$Callers" "phase" "[I", Cond.fieldLink RX0 21 "GoalLifts$Callers" "given" "[I", Cond.methodLink RX0 58 yX0_rides, Cond.instanceMethod yX0_rides, Cond.selects RX0 yX0_rides yX0_rides]
def wsX3_costOf_r2 : List Cond := [Cond.code yX0_rides cX0_rides 3 (some .boolean), Cond.methodLink RX3 73 yJ6_bitCount_0f7a4, Cond.static yJ6_bitCount_0f7a4, Cond.initialized RJ6, Cond.code yJ6_bitCount_0f7a4 cJ6_bitCount_0f7a4 1 (some .int), Cond.constant RJ6 265 (1431655765), Cond.constant RJ6 266 (858993459), Cond.constant RJ6 267 (252645135), Cond.methodLink RX3 78 yX0_numberWith, Cond.instanceMethod yX0_numberWith, Cond.selects RX0 yX0_numberWith yX0_numberWith, Cond.code yX0_numberWith cX0_numberWith 2 (some .int), Cond.methodLink RX0 50 yX0_numberOf, Cond.instanceMethod yX0_numberOf, Cond.selects RX0 yX0_numberOf yX0_numberOf, Cond.code yX0_numberOf cX0_numberOf 5 (some .int)]
def wsX3_costOf : List Cond := .code yX3_costOf cX3_costOf 6 (some .int) :: ((wsX3_costOf_r1 ++ wsX3_costOf_r2) ++ wsX30 ++ wsX10 ++ wsX00)
def wsX3_bestCar_r1 : List Cond := [Cond.fieldLink RX3 18 "GoalLifts$House" "cars" "LGoalLifts$Cars;", Cond.fieldLink RX3 81 "GoalLifts$Cars" "count" "I", Cond.methodLink RX3 84 yX3_canBeGiven, Cond.instanceMethod yX3_canBeGiven, Cond.selects RX3 yX3_canBeGiven yX3_canBeGiven, Cond.initialized RX3, Cond.code yX3_canBeGiven cX3_canBeGiven 4 (some .boolean), Cond.fieldLink RX3 50 "GoalLifts$Cars" "state" "[I", Cond.methodLink RX3 53 yX3_isAwake, Cond.instanceMethod yX3_isAwake, Cond.selects RX3 yX3_isAwake yX3_isAwake, Cond.code yX3_isAwake cX3_isAwake 2 (some .boolean), Cond.fieldLink RX3 9 "GoalLifts$House" "awake" "[I", Cond.methodLink RX3 46 yX3_hour, Cond.instanceMethod yX3_hour, Cond.selects RX3 yX3_hour yX3_hour, Cond.code yX3_hour cX3_hour 1 (some .int), Cond.fieldLink RX3 29 "GoalLifts$House" "tick" "I", Cond.methodLink RX3 57 yX1_serves, Cond.instanceMethod yX1_serves, Cond.selects RX1 yX1_serves yX1_serves, Cond.initialized RX1, Cond.code yX1_serves cX1_serves 3 (some .boolean), Cond.fieldLink RX1 9 "GoalLifts$Cars" "lowest" "[I"]
def wsX3_bestCar_r2 : List Cond := [Cond.fieldLink RX1 15 "GoalLifts$Cars" "highest" "[I", Cond.methodLink RX3 88 yX3_costOf, Cond.instanceMethod yX3_costOf, Cond.selects RX3 yX3_costOf yX3_costOf, Cond.code yX3_costOf cX3_costOf 6 (some .int), Cond.fieldLink RX3 61 "GoalLifts$Cars" "floor" "[I", Cond.methodLink RX3 64 Lib.Math.abs.name, Cond.static Lib.Math.abs.name, Cond.initialized "java/lang/Math", Cond.code Lib.Math.abs.name Lib.Math.abs.code 1 (some .int), Cond.fieldLink RX3 25 "GoalLifts$House" "callers" "LGoalLifts$Callers;", Cond.methodLink RX3 70 yX0_stopsOf, Cond.instanceMethod yX0_stopsOf, Cond.selects RX0 yX0_stopsOf yX0_stopsOf, Cond.initialized RX0, Cond.code yX0_stopsOf cX0_stopsOf 4 (some .int), Cond.fieldLink RX0 36 "GoalLifts$Callers" "count" "I", Cond.fieldLink RX0 9 "GoalLifts$Callers" "floor" "[I", Cond.fieldLink RX0 15 "GoalLifts$Callers" "goal" "[I", Cond.methodLink RX0 54 yX0_waitsFor, Cond.instanceMethod yX0_waitsFor, Cond.selects RX0 yX0_waitsFor yX0_waitsFor, Cond.code yX0_waitsFor cX0_waitsFor 3 (some .boolean), Cond.fieldLink RX0 18 "GoalLifts$Callers" "phase" "[I"]
def wsX3_bestCar_r3 : List Cond := [Cond.fieldLink RX0 21 "GoalLifts$Callers" "given" "[I", Cond.methodLink RX0 58 yX0_rides, Cond.instanceMethod yX0_rides, Cond.selects RX0 yX0_rides yX0_rides, Cond.code yX0_rides cX0_rides 3 (some .boolean), Cond.methodLink RX3 73 yJ6_bitCount_0f7a4, Cond.static yJ6_bitCount_0f7a4, Cond.initialized RJ6, Cond.code yJ6_bitCount_0f7a4 cJ6_bitCount_0f7a4 1 (some .int), Cond.constant RJ6 265 (1431655765), Cond.constant RJ6 266 (858993459), Cond.constant RJ6 267 (252645135), Cond.methodLink RX3 78 yX0_numberWith, Cond.instanceMethod yX0_numberWith, Cond.selects RX0 yX0_numberWith yX0_numberWith, Cond.code yX0_numberWith cX0_numberWith 2 (some .int), Cond.methodLink RX0 50 yX0_numberOf, Cond.instanceMethod yX0_numberOf, Cond.selects RX0 yX0_numberOf yX0_numberOf, Cond.code yX0_numberOf cX0_numberOf 5 (some .int)]
def wsX3_bestCar : List Cond := .code yX3_bestCar cX3_bestCar 7 (some .int) :: ((wsX3_bestCar_r1 ++ (wsX3_bestCar_r2 ++ wsX3_bestCar_r3)) ++ wsX30 ++ wsX10 ++ wsX00)
def wsX3_stopOrTravel_r1 : List Cond := [Cond.fieldLink RX3 18 "GoalLifts$House" "cars" "LGoalLifts$Cars;", Cond.fieldLink RX3 61 "GoalLifts$Cars" "floor" "[I", Cond.fieldLink RX3 25 "GoalLifts$House" "callers" "LGoalLifts$Callers;", Cond.fieldLink RX3 29 "GoalLifts$House" "tick" "I", Cond.fieldLink RX3 115 "GoalLifts$Cars" "places" "[I", Cond.fieldLink RX3 122 "GoalLifts$Cars" "stopsMade" "I", Cond.methodLink RX3 112 yX0_letOut, Cond.instanceMethod yX0_letOut, Cond.selects RX0 yX0_letOut yX0_letOut, Cond.initialized RX0, Cond.code yX0_letOut cX0_letOut 6 (some .int), Cond.fieldLink RX0 36 "GoalLifts$Callers" "count" "I", Cond.fieldLink RX0 15 "GoalLifts$Callers" "goal" "[I", Cond.fieldLink RX0 18 "GoalLifts$Callers" "phase" "[I", Cond.fieldLink RX0 30 "GoalLifts$Callers" "thereAt" "[I", Cond.methodLink RX0 58 yX0_rides, Cond.instanceMethod yX0_rides, Cond.selects RX0 yX0_rides yX0_rides, Cond.code yX0_rides cX0_rides 3 (some .boolean), Cond.fieldLink RX0 21 "GoalLifts$Callers" "given" "[I", Cond.methodLink RX3 118 yX0_takeIn, Cond.instanceMethod yX0_takeIn, Cond.selects RX0 yX0_takeIn yX0_takeIn, Cond.code yX0_takeIn cX0_takeIn 8 (some .int)]
def wsX3_stopOrTravel_r2 : List Cond := [Cond.fieldLink RX0 9 "GoalLifts$Callers" "floor" "[I", Cond.fieldLink RX0 27 "GoalLifts$Callers" "rodeAt" "[I", Cond.methodLink RX0 50 yX0_numberOf, Cond.instanceMethod yX0_numberOf, Cond.selects RX0 yX0_numberOf yX0_numberOf, Cond.code yX0_numberOf cX0_numberOf 5 (some .int), Cond.methodLink RX0 54 yX0_waitsFor, Cond.instanceMethod yX0_waitsFor, Cond.selects RX0 yX0_waitsFor yX0_waitsFor, Cond.code yX0_waitsFor cX0_waitsFor 3 (some .boolean), Cond.methodLink RX3 125 yX0_aimOf, Cond.instanceMethod yX0_aimOf, Cond.selects RX0 yX0_aimOf yX0_aimOf, Cond.code yX0_aimOf cX0_aimOf 6 (some .int), Cond.methodLink RX0 61 yX0_isNearer, Cond.static yX0_isNearer, Cond.code yX0_isNearer cX0_isNearer 5 (some .boolean), Cond.methodLink RX0 65 Lib.Math.abs.name, Cond.static Lib.Math.abs.name, Cond.initialized "java/lang/Math", Cond.code Lib.Math.abs.name Lib.Math.abs.code 1 (some .int), Cond.methodLink RX3 128 yX1_travelTowards, Cond.instanceMethod yX1_travelTowards, Cond.selects RX1 yX1_travelTowards yX1_travelTowards]
def wsX3_stopOrTravel_r3 : List Cond := [Cond.initialized RX1, Cond.code yX1_travelTowards cX1_travelTowards 3 none, Cond.fieldLink RX1 21 "GoalLifts$Cars" "floor" "[I", Cond.fieldLink RX1 27 "GoalLifts$Cars" "travelled" "[I"]
def wsX3_stopOrTravel : List Cond := .code yX3_stopOrTravel cX3_stopOrTravel 6 none :: ((wsX3_stopOrTravel_r1 ++ (wsX3_stopOrTravel_r2 ++ wsX3_stopOrTravel_r3)) ++ wsX30 ++ wsX10 ++ wsX00)
def wsX3_oneTick_r1 : List Cond := [Cond.fieldLink RX3 25 "GoalLifts$House" "callers" "LGoalLifts$Callers;", Cond.fieldLink RX3 92 "GoalLifts$Callers" "count" "I", Cond.fieldLink RX3 93 "GoalLifts$Callers" "phase" "[I", Cond.fieldLink RX3 96 "GoalLifts$Callers" "floor" "[I", Cond.fieldLink RX3 97 "GoalLifts$Callers" "goal" "[I", Cond.fieldLink RX3 18 "GoalLifts$House" "cars" "LGoalLifts$Cars;", Cond.fieldLink RX3 81 "GoalLifts$Cars" "count" "I", Cond.fieldLink RX3 50 "GoalLifts$Cars" "state" "[I", Cond.fieldLink RX3 29 "GoalLifts$House" "tick" "I", Cond.methodLink RX3 100 yX3_bestCar, Cond.instanceMethod yX3_bestCar, Cond.selects RX3 yX3_bestCar yX3_bestCar, Cond.initialized RX3, Cond.code yX3_bestCar cX3_bestCar 7 (some .int), Cond.methodLink RX3 84 yX3_canBeGiven, Cond.instanceMethod yX3_canBeGiven, Cond.selects RX3 yX3_canBeGiven yX3_canBeGiven, Cond.code yX3_canBeGiven cX3_canBeGiven 4 (some .boolean), Cond.methodLink RX3 53 yX3_isAwake, Cond.instanceMethod yX3_isAwake, Cond.selects RX3 yX3_isAwake yX3_isAwake, Cond.code yX3_isAwake cX3_isAwake 2 (some .boolean), Cond.fieldLink RX3 9 "GoalLifts$House" "awake" "[I", Cond.methodLink RX3 46 yX3_hour]
def wsX3_oneTick_r2 : List Cond := [Cond.instanceMethod yX3_hour, Cond.selects RX3 yX3_hour yX3_hour, Cond.code yX3_hour cX3_hour 1 (some .int), Cond.methodLink RX3 57 yX1_serves, Cond.instanceMethod yX1_serves, Cond.selects RX1 yX1_serves yX1_serves, Cond.initialized RX1, Cond.code yX1_serves cX1_serves 3 (some .boolean), Cond.fieldLink RX1 9 "GoalLifts$Cars" "lowest" "[I", Cond.fieldLink RX1 15 "GoalLifts$Cars" "highest" "[I", Cond.methodLink RX3 88 yX3_costOf, Cond.instanceMethod yX3_costOf, Cond.selects RX3 yX3_costOf yX3_costOf, Cond.code yX3_costOf cX3_costOf 6 (some .int), Cond.fieldLink RX3 61 "GoalLifts$Cars" "floor" "[I", Cond.methodLink RX3 64 Lib.Math.abs.name, Cond.static Lib.Math.abs.name, Cond.initialized "java/lang/Math", Cond.code Lib.Math.abs.name Lib.Math.abs.code 1 (some .int), Cond.methodLink RX3 70 yX0_stopsOf, Cond.instanceMethod yX0_stopsOf, Cond.selects RX0 yX0_stopsOf yX0_stopsOf, Cond.initialized RX0, Cond.code yX0_stopsOf cX0_stopsOf 4 (some .int)]
def wsX3_oneTick_r3 : List Cond := [Cond.fieldLink RX0 36 "GoalLifts$Callers" "count" "I", Cond.fieldLink RX0 9 "GoalLifts$Callers" "floor" "[I", Cond.fieldLink RX0 15 "GoalLifts$Callers" "goal" "[I", Cond.methodLink RX0 54 yX0_waitsFor, Cond.instanceMethod yX0_waitsFor, Cond.selects RX0 yX0_waitsFor yX0_waitsFor, Cond.code yX0_waitsFor cX0_waitsFor 3 (some .boolean), Cond.fieldLink RX0 18 "GoalLifts$Callers" "phase" "[I", Cond.fieldLink RX0 21 "GoalLifts$Callers" "given" "[I", Cond.methodLink RX0 58 yX0_rides, Cond.instanceMethod yX0_rides, Cond.selects RX0 yX0_rides yX0_rides, Cond.code yX0_rides cX0_rides 3 (some .boolean), Cond.methodLink RX3 73 yJ6_bitCount_0f7a4, Cond.static yJ6_bitCount_0f7a4, Cond.initialized RJ6, Cond.code yJ6_bitCount_0f7a4 cJ6_bitCount_0f7a4 1 (some .int), Cond.constant RJ6 265 (1431655765), Cond.constant RJ6 266 (858993459), Cond.constant RJ6 267 (252645135), Cond.methodLink RX3 78 yX0_numberWith, Cond.instanceMethod yX0_numberWith, Cond.selects RX0 yX0_numberWith yX0_numberWith, Cond.code yX0_numberWith cX0_numberWith 2 (some .int)]
def wsX3_oneTick_r4 : List Cond := [Cond.methodLink RX0 50 yX0_numberOf, Cond.instanceMethod yX0_numberOf, Cond.selects RX0 yX0_numberOf yX0_numberOf, Cond.code yX0_numberOf cX0_numberOf 5 (some .int), Cond.methodLink RX3 104 yX0_give, Cond.instanceMethod yX0_give, Cond.selects RX0 yX0_give yX0_give, Cond.code yX0_give cX0_give 3 none, Cond.fieldLink RX0 33 "GoalLifts$Callers" "timesGiven" "[I", Cond.methodLink RX0 46 yX0_has, Cond.instanceMethod yX0_has, Cond.selects RX0 yX0_has yX0_has, Cond.code yX0_has cX0_has 2 (some .boolean), Cond.methodLink RX3 108 yX3_stopOrTravel, Cond.instanceMethod yX3_stopOrTravel, Cond.selects RX3 yX3_stopOrTravel yX3_stopOrTravel, Cond.code yX3_stopOrTravel cX3_stopOrTravel 6 none, Cond.fieldLink RX3 115 "GoalLifts$Cars" "places" "[I", Cond.fieldLink RX3 122 "GoalLifts$Cars" "stopsMade" "I", Cond.methodLink RX3 112 yX0_letOut, Cond.instanceMethod yX0_letOut, Cond.selects RX0 yX0_letOut yX0_letOut, Cond.code yX0_letOut cX0_letOut 6 (some .int), Cond.fieldLink RX0 30 "GoalLifts$Callers" "thereAt" "[I"]
def wsX3_oneTick_r5 : List Cond := [Cond.methodLink RX3 118 yX0_takeIn, Cond.instanceMethod yX0_takeIn, Cond.selects RX0 yX0_takeIn yX0_takeIn, Cond.code yX0_takeIn cX0_takeIn 8 (some .int), Cond.fieldLink RX0 27 "GoalLifts$Callers" "rodeAt" "[I", Cond.methodLink RX3 125 yX0_aimOf, Cond.instanceMethod yX0_aimOf, Cond.selects RX0 yX0_aimOf yX0_aimOf, Cond.code yX0_aimOf cX0_aimOf 6 (some .int), Cond.methodLink RX0 61 yX0_isNearer, Cond.static yX0_isNearer, Cond.code yX0_isNearer cX0_isNearer 5 (some .boolean), Cond.methodLink RX0 65 Lib.Math.abs.name, Cond.methodLink RX3 128 yX1_travelTowards, Cond.instanceMethod yX1_travelTowards, Cond.selects RX1 yX1_travelTowards yX1_travelTowards, Cond.code yX1_travelTowards cX1_travelTowards 3 none, Cond.fieldLink RX1 21 "GoalLifts$Cars" "floor" "[I", Cond.fieldLink RX1 27 "GoalLifts$Cars" "travelled" "[I"]
def wsX3_oneTick : List Cond := .code yX3_oneTick cX3_oneTick 2 none :: ((wsX3_oneTick_r1 ++ (wsX3_oneTick_r2 ++ (wsX3_oneTick_r3 ++ (wsX3_oneTick_r4 ++ wsX3_oneTick_r5)))) ++ wsX30 ++ wsX00 ++ wsX10)
def wsX3_breakCar : List Cond := .code yX3_breakCar cX3_breakCar 2 none :: ([.fieldLink RX3 18 "GoalLifts$House" "cars" "LGoalLifts$Cars;", .fieldLink RX3 50 "GoalLifts$Cars" "state" "[I", .fieldLink RX3 25 "GoalLifts$House" "callers" "LGoalLifts$Callers;", .fieldLink RX3 61 "GoalLifts$Cars" "floor" "[I", .fieldLink RX3 29 "GoalLifts$House" "tick" "I", .methodLink RX3 131 yX0_loseCar, .instanceMethod yX0_loseCar, .selects RX0 yX0_loseCar yX0_loseCar, .initialized RX0, .code yX0_loseCar cX0_loseCar 6 none, .fieldLink RX0 36 "GoalLifts$Callers" "count" "I", .fieldLink RX0 9 "GoalLifts$Callers" "floor" "[I", .fieldLink RX0 15 "GoalLifts$Callers" "goal" "[I", .fieldLink RX0 18 "GoalLifts$Callers" "phase" "[I", .fieldLink RX0 30 "GoalLifts$Callers" "thereAt" "[I", .fieldLink RX0 21 "GoalLifts$Callers" "given" "[I", .methodLink RX0 58 yX0_rides, .instanceMethod yX0_rides, .selects RX0 yX0_rides yX0_rides, .code yX0_rides cX0_rides 3 (some .boolean), .methodLink RX0 54 yX0_waitsFor, .instanceMethod yX0_waitsFor, .selects RX0 yX0_waitsFor yX0_waitsFor, .code yX0_waitsFor cX0_waitsFor 3 (some .boolean)] ++ wsX30 ++ wsX10 ++ wsX00)
def wsX4_init_r1 : List Cond := [Cond.methodLink RX4 1 objectInit, Cond.instanceMethod objectInit, Cond.code objectInit ⟨#[0xb1]⟩ 1 none, Cond.classLink RX4 7 RX3, Cond.instantiable RX3 4, Cond.initialized RX3, Cond.fieldLink RX4 10 "GoalLifts" "house" "LGoalLifts$House;", Cond.fieldLink RX4 16 "GoalLifts" "forecast" "LGoalLifts$House;", Cond.classLink RX4 19 RX2, Cond.instantiable RX2 3, Cond.initialized RX2, Cond.fieldLink RX4 22 "GoalLifts" "history" "LGoalLifts$History;", Cond.methodLink RX4 9 yX3_init, Cond.instanceMethod yX3_init, Cond.code yX3_init cX3_init 2 none, Cond.methodLink RX3 3 objectInit, Cond.arrayClass .int, Cond.fieldLink RX3 9 "GoalLifts$House" "awake" "[I", Cond.classLink RX3 15 RX1, Cond.instantiable RX1 8, Cond.initialized RX1, Cond.fieldLink RX3 18 "GoalLifts$House" "cars" "LGoalLifts$Cars;", Cond.classLink RX3 22 RX0, Cond.instantiable RX0 9]
def wsX4_init_r2 : List Cond := [Cond.initialized RX0, Cond.fieldLink RX3 25 "GoalLifts$House" "callers" "LGoalLifts$Callers;", Cond.instanceMethod yX1_init, Cond.code yX1_init cX1_init 1 none, Cond.methodLink RX1 3 objectInit, Cond.fieldLink RX1 9 "GoalLifts$Cars" "lowest" "[I", Cond.fieldLink RX1 15 "GoalLifts$Cars" "highest" "[I", Cond.fieldLink RX1 18 "GoalLifts$Cars" "places" "[I", Cond.fieldLink RX1 21 "GoalLifts$Cars" "floor" "[I", Cond.fieldLink RX1 24 "GoalLifts$Cars" "state" "[I", Cond.fieldLink RX1 27 "GoalLifts$Cars" "travelled" "[I", Cond.instanceMethod yX0_init, Cond.code yX0_init cX0_init 1 none, Cond.methodLink RX0 3 objectInit, Cond.fieldLink RX0 9 "GoalLifts$Callers" "floor" "[I", Cond.fieldLink RX0 15 "GoalLifts$Callers" "goal" "[I", Cond.fieldLink RX0 18 "GoalLifts$Callers" "phase" "[I", Cond.fieldLink RX0 21 "GoalLifts$Callers" "given" "[I", Cond.fieldLink RX0 24 "GoalLifts$Callers" "calledAt" "[I", Cond.fieldLink RX0 27 "GoalLifts$Callers" "rodeAt" "[I", Cond.fieldLink RX0 30 "GoalLifts$Callers" "thereAt" "[I", Cond.fieldLink RX0 33 "GoalLifts$Callers" "timesGiven" "[I", Cond.methodLink RX4 21 yX2_init, Cond.instanceMethod yX2_init]
def wsX4_init_r3 : List Cond := [Cond.code yX2_init cX2_init 2 none, Cond.methodLink RX2 3 objectInit, Cond.classLink RX2 9 RX3, Cond.fieldLink RX2 11 "GoalLifts$History" "states" "[LGoalLifts$House;", Cond.methodLink RX2 17 yX3_init]
def wsX4_init : List Cond := .code yX4_init cX4_init 1 none :: ((wsX4_init_r1 ++ (wsX4_init_r2 ++ wsX4_init_r3)) ++ wsX30 ++ wsX40 ++ wsX20 ++ wsX10 ++ wsX00)
def wsX4_isFloor : List Cond := .code yX4_isFloor cX4_isFloor 1 (some .boolean) :: ([])
def wsX4_addCar_r1 : List Cond := [Cond.fieldLink RX4 10 "GoalLifts" "house" "LGoalLifts$House;", Cond.fieldLink RX4 30 "GoalLifts$House" "cars" "LGoalLifts$Cars;", Cond.fieldLink RX4 34 "GoalLifts$Cars" "count" "I", Cond.fieldLink RX4 22 "GoalLifts" "history" "LGoalLifts$History;", Cond.methodLink RX4 26 yX4_isFloor, Cond.static yX4_isFloor, Cond.initialized RX4, Cond.code yX4_isFloor cX4_isFloor 1 (some .boolean), Cond.methodLink RX4 40 yX2_keep, Cond.instanceMethod yX2_keep, Cond.selects RX2 yX2_keep yX2_keep, Cond.initialized RX2, Cond.code yX2_keep cX2_keep 3 none, Cond.fieldLink RX2 11 "GoalLifts$History" "states" "[LGoalLifts$House;", Cond.fieldLink RX2 18 "GoalLifts$History" "next" "I", Cond.fieldLink RX2 32 "GoalLifts$History" "count" "I", Cond.methodLink RX2 35 Lib.Math.min.name, Cond.static Lib.Math.min.name, Cond.initialized "java/lang/Math", Cond.code Lib.Math.min.name Lib.Math.min.code 2 (some .int), Cond.methodLink RX2 22 yX3_copyFrom, Cond.instanceMethod yX3_copyFrom, Cond.selects RX3 yX3_copyFrom yX3_copyFrom, Cond.initialized RX3]
def wsX4_addCar_r2 : List Cond := [Cond.code yX3_copyFrom cX3_copyFrom 2 none, Cond.fieldLink RX3 29 "GoalLifts$House" "tick" "I", Cond.fieldLink RX3 9 "GoalLifts$House" "awake" "[I", Cond.methodLink RX3 33 arraycopyName, Cond.native arraycopyName, Cond.static arraycopyName, Cond.initialized "java/lang/System", Cond.fieldLink RX3 18 "GoalLifts$House" "cars" "LGoalLifts$Cars;", Cond.fieldLink RX3 25 "GoalLifts$House" "callers" "LGoalLifts$Callers;", Cond.methodLink RX3 39 yX1_copyFrom, Cond.instanceMethod yX1_copyFrom, Cond.selects RX1 yX1_copyFrom yX1_copyFrom, Cond.initialized RX1, Cond.code yX1_copyFrom cX1_copyFrom 2 none, Cond.fieldLink RX1 30 "GoalLifts$Cars" "count" "I", Cond.fieldLink RX1 34 "GoalLifts$Cars" "stopsMade" "I", Cond.fieldLink RX1 9 "GoalLifts$Cars" "lowest" "[I", Cond.methodLink RX1 37 arraycopyName, Cond.fieldLink RX1 15 "GoalLifts$Cars" "highest" "[I", Cond.fieldLink RX1 18 "GoalLifts$Cars" "places" "[I", Cond.fieldLink RX1 21 "GoalLifts$Cars" "floor" "[I", Cond.fieldLink RX1 24 "GoalLifts$Cars" "state" "[I", Cond.fieldLink RX1 27 "GoalLifts$Cars" "travelled" "[I", Cond.methodLink RX3 43 yX0_copyFrom]
def wsX4_addCar_r3 : List Cond := [Cond.instanceMethod yX0_copyFrom, Cond.selects RX0 yX0_copyFrom yX0_copyFrom, Cond.initialized RX0, Cond.code yX0_copyFrom cX0_copyFrom 2 none, Cond.fieldLink RX0 36 "GoalLifts$Callers" "count" "I", Cond.fieldLink RX0 9 "GoalLifts$Callers" "floor" "[I", Cond.methodLink RX0 40 arraycopyName, Cond.fieldLink RX0 15 "GoalLifts$Callers" "goal" "[I", Cond.fieldLink RX0 18 "GoalLifts$Callers" "phase" "[I", Cond.fieldLink RX0 21 "GoalLifts$Callers" "given" "[I", Cond.fieldLink RX0 24 "GoalLifts$Callers" "calledAt" "[I", Cond.fieldLink RX0 27 "GoalLifts$Callers" "rodeAt" "[I", Cond.fieldLink RX0 30 "GoalLifts$Callers" "thereAt" "[I", Cond.fieldLink RX0 33 "GoalLifts$Callers" "timesGiven" "[I", Cond.methodLink RX2 26 yJ9_floorMod_7cf53, Cond.static yJ9_floorMod_7cf53, Cond.initialized RJ9, Cond.code yJ9_floorMod_7cf53 cJ9_floorMod_7cf53 3 (some .int), Cond.methodLink RX4 44 yX1_add, Cond.instanceMethod yX1_add, Cond.selects RX1 yX1_add yX1_add, Cond.code yX1_add cX1_add 5 (some .int)]
def wsX4_addCar : List Cond := .code yX4_addCar cX4_addCar 4 (some .int) :: ((wsX4_addCar_r1 ++ (wsX4_addCar_r2 ++ wsX4_addCar_r3)) ++ wsX40 ++ wsX30 ++ wsX10 ++ wsX20 ++ wsX00)
def wsX4_setAwake_r1 : List Cond := [Cond.fieldLink RX4 22 "GoalLifts" "history" "LGoalLifts$History;", Cond.fieldLink RX4 10 "GoalLifts" "house" "LGoalLifts$House;", Cond.fieldLink RX4 48 "GoalLifts$House" "awake" "[I", Cond.methodLink RX4 40 yX2_keep, Cond.instanceMethod yX2_keep, Cond.selects RX2 yX2_keep yX2_keep, Cond.initialized RX2, Cond.code yX2_keep cX2_keep 3 none, Cond.fieldLink RX2 11 "GoalLifts$History" "states" "[LGoalLifts$House;", Cond.fieldLink RX2 18 "GoalLifts$History" "next" "I", Cond.fieldLink RX2 32 "GoalLifts$History" "count" "I", Cond.methodLink RX2 35 Lib.Math.min.name, Cond.static Lib.Math.min.name, Cond.initialized "java/lang/Math", Cond.code Lib.Math.min.name Lib.Math.min.code 2 (some .int), Cond.methodLink RX2 22 yX3_copyFrom, Cond.instanceMethod yX3_copyFrom, Cond.selects RX3 yX3_copyFrom yX3_copyFrom, Cond.initialized RX3, Cond.code yX3_copyFrom cX3_copyFrom 2 none, Cond.fieldLink RX3 29 "GoalLifts$House" "tick" "I", Cond.fieldLink RX3 9 "GoalLifts$House" "awake" "[I", Cond.methodLink RX3 33 arraycopyName, Cond.native arraycopyName]
def wsX4_setAwake_r2 : List Cond := [Cond.static arraycopyName, Cond.initialized "java/lang/System", Cond.fieldLink RX3 18 "GoalLifts$House" "cars" "LGoalLifts$Cars;", Cond.fieldLink RX3 25 "GoalLifts$House" "callers" "LGoalLifts$Callers;", Cond.methodLink RX3 39 yX1_copyFrom, Cond.instanceMethod yX1_copyFrom, Cond.selects RX1 yX1_copyFrom yX1_copyFrom, Cond.initialized RX1, Cond.code yX1_copyFrom cX1_copyFrom 2 none, Cond.fieldLink RX1 30 "GoalLifts$Cars" "count" "I", Cond.fieldLink RX1 34 "GoalLifts$Cars" "stopsMade" "I", Cond.fieldLink RX1 9 "GoalLifts$Cars" "lowest" "[I", Cond.methodLink RX1 37 arraycopyName, Cond.fieldLink RX1 15 "GoalLifts$Cars" "highest" "[I", Cond.fieldLink RX1 18 "GoalLifts$Cars" "places" "[I", Cond.fieldLink RX1 21 "GoalLifts$Cars" "floor" "[I", Cond.fieldLink RX1 24 "GoalLifts$Cars" "state" "[I", Cond.fieldLink RX1 27 "GoalLifts$Cars" "travelled" "[I", Cond.methodLink RX3 43 yX0_copyFrom, Cond.instanceMethod yX0_copyFrom, Cond.selects RX0 yX0_copyFrom yX0_copyFrom, Cond.initialized RX0, Cond.code yX0_copyFrom cX0_copyFrom 2 none, Cond.fieldLink RX0 36 "GoalLifts$Callers" "count" "I"]
def wsX4_setAwake_r3 : List Cond := [Cond.fieldLink RX0 9 "GoalLifts$Callers" "floor" "[I", Cond.methodLink RX0 40 arraycopyName, Cond.fieldLink RX0 15 "GoalLifts$Callers" "goal" "[I", Cond.fieldLink RX0 18 "GoalLifts$Callers" "phase" "[I", Cond.fieldLink RX0 21 "GoalLifts$Callers" "given" "[I", Cond.fieldLink RX0 24 "GoalLifts$Callers" "calledAt" "[I", Cond.fieldLink RX0 27 "GoalLifts$Callers" "rodeAt" "[I", Cond.fieldLink RX0 30 "GoalLifts$Callers" "thereAt" "[I", Cond.fieldLink RX0 33 "GoalLifts$Callers" "timesGiven" "[I", Cond.methodLink RX2 26 yJ9_floorMod_7cf53, Cond.static yJ9_floorMod_7cf53, Cond.initialized RJ9, Cond.code yJ9_floorMod_7cf53 cJ9_floorMod_7cf53 3 (some .int)]
def wsX4_setAwake : List Cond := .code yX4_setAwake cX4_setAwake 4 (some .int) :: ((wsX4_setAwake_r1 ++ (wsX4_setAwake_r2 ++ wsX4_setAwake_r3)) ++ wsX40 ++ wsX30 ++ wsX20 ++ wsX10 ++ wsX00)
def wsX4_hold_r1 : List Cond := [Cond.fieldLink RX4 10 "GoalLifts" "house" "LGoalLifts$House;", Cond.fieldLink RX4 30 "GoalLifts$House" "cars" "LGoalLifts$Cars;", Cond.fieldLink RX4 55 "GoalLifts$Cars" "state" "[I", Cond.fieldLink RX4 22 "GoalLifts" "history" "LGoalLifts$History;", Cond.fieldLink RX4 58 "GoalLifts$House" "callers" "LGoalLifts$Callers;", Cond.methodLink RX4 52 yX1_has, Cond.instanceMethod yX1_has, Cond.selects RX1 yX1_has yX1_has, Cond.initialized RX1, Cond.code yX1_has cX1_has 2 (some .boolean), Cond.fieldLink RX1 30 "GoalLifts$Cars" "count" "I", Cond.methodLink RX4 40 yX2_keep, Cond.instanceMethod yX2_keep, Cond.selects RX2 yX2_keep yX2_keep, Cond.initialized RX2, Cond.code yX2_keep cX2_keep 3 none, Cond.fieldLink RX2 11 "GoalLifts$History" "states" "[LGoalLifts$House;", Cond.fieldLink RX2 18 "GoalLifts$History" "next" "I", Cond.fieldLink RX2 32 "GoalLifts$History" "count" "I", Cond.methodLink RX2 35 Lib.Math.min.name, Cond.static Lib.Math.min.name, Cond.initialized "java/lang/Math", Cond.code Lib.Math.min.name Lib.Math.min.code 2 (some .int), Cond.methodLink RX2 22 yX3_copyFrom]
def wsX4_hold_r2 : List Cond := [Cond.instanceMethod yX3_copyFrom, Cond.selects RX3 yX3_copyFrom yX3_copyFrom, Cond.initialized RX3, Cond.code yX3_copyFrom cX3_copyFrom 2 none, Cond.fieldLink RX3 29 "GoalLifts$House" "tick" "I", Cond.fieldLink RX3 9 "GoalLifts$House" "awake" "[I", Cond.methodLink RX3 33 arraycopyName, Cond.native arraycopyName, Cond.static arraycopyName, Cond.initialized "java/lang/System", Cond.fieldLink RX3 18 "GoalLifts$House" "cars" "LGoalLifts$Cars;", Cond.fieldLink RX3 25 "GoalLifts$House" "callers" "LGoalLifts$Callers;", Cond.methodLink RX3 39 yX1_copyFrom, Cond.instanceMethod yX1_copyFrom, Cond.selects RX1 yX1_copyFrom yX1_copyFrom, Cond.code yX1_copyFrom cX1_copyFrom 2 none, Cond.fieldLink RX1 34 "GoalLifts$Cars" "stopsMade" "I", Cond.fieldLink RX1 9 "GoalLifts$Cars" "lowest" "[I", Cond.methodLink RX1 37 arraycopyName, Cond.fieldLink RX1 15 "GoalLifts$Cars" "highest" "[I", Cond.fieldLink RX1 18 "GoalLifts$Cars" "places" "[I", Cond.fieldLink RX1 21 "GoalLifts$Cars" "floor" "[I", Cond.fieldLink RX1 24 "GoalLifts$Cars" "state" "[I", Cond.fieldLink RX1 27 "GoalLifts$Cars" "travelled" "[I"]
def wsX4_hold_r3 : List Cond := [Cond.methodLink RX3 43 yX0_copyFrom, Cond.instanceMethod yX0_copyFrom, Cond.selects RX0 yX0_copyFrom yX0_copyFrom, Cond.initialized RX0, Cond.code yX0_copyFrom cX0_copyFrom 2 none, Cond.fieldLink RX0 36 "GoalLifts$Callers" "count" "I", Cond.fieldLink RX0 9 "GoalLifts$Callers" "floor" "[I", Cond.methodLink RX0 40 arraycopyName, Cond.fieldLink RX0 15 "GoalLifts$Callers" "goal" "[I", Cond.fieldLink RX0 18 "GoalLifts$Callers" "phase" "[I", Cond.fieldLink RX0 21 "GoalLifts$Callers" "given" "[I", Cond.fieldLink RX0 24 "GoalLifts$Callers" "calledAt" "[I", Cond.fieldLink RX0 27 "GoalLifts$Callers" "rodeAt" "[I", Cond.fieldLink RX0 30 "GoalLifts$Callers" "thereAt" "[I", Cond.fieldLink RX0 33 "GoalLifts$Callers" "timesGiven" "[I", Cond.methodLink RX2 26 yJ9_floorMod_7cf53, Cond.static yJ9_floorMod_7cf53, Cond.initialized RJ9, Cond.code yJ9_floorMod_7cf53 cJ9_floorMod_7cf53 3 (some .int), Cond.methodLink RX4 62 yX0_numberWith, Cond.instanceMethod yX0_numberWith, Cond.selects RX0 yX0_numberWith yX0_numberWith, Cond.code yX0_numberWith cX0_numberWith 2 (some .int), Cond.methodLink RX0 50 yX0_numberOf]
def wsX4_hold_r4 : List Cond := [Cond.instanceMethod yX0_numberOf, Cond.selects RX0 yX0_numberOf yX0_numberOf, Cond.code yX0_numberOf cX0_numberOf 5 (some .int)]
def wsX4_hold : List Cond := .code yX4_hold cX4_hold 5 (some .int) :: ((wsX4_hold_r1 ++ (wsX4_hold_r2 ++ (wsX4_hold_r3 ++ wsX4_hold_r4))) ++ wsX40 ++ wsX30 ++ wsX10 ++ wsX20 ++ wsX00)
def wsX4_fail_r1 : List Cond := [Cond.fieldLink RX4 10 "GoalLifts" "house" "LGoalLifts$House;", Cond.fieldLink RX4 30 "GoalLifts$House" "cars" "LGoalLifts$Cars;", Cond.fieldLink RX4 55 "GoalLifts$Cars" "state" "[I", Cond.fieldLink RX4 22 "GoalLifts" "history" "LGoalLifts$History;", Cond.fieldLink RX4 58 "GoalLifts$House" "callers" "LGoalLifts$Callers;", Cond.methodLink RX4 52 yX1_has, Cond.instanceMethod yX1_has, Cond.selects RX1 yX1_has yX1_has, Cond.initialized RX1, Cond.code yX1_has cX1_has 2 (some .boolean), Cond.fieldLink RX1 30 "GoalLifts$Cars" "count" "I", Cond.methodLink RX4 40 yX2_keep, Cond.instanceMethod yX2_keep, Cond.selects RX2 yX2_keep yX2_keep, Cond.initialized RX2, Cond.code yX2_keep cX2_keep 3 none, Cond.fieldLink RX2 11 "GoalLifts$History" "states" "[LGoalLifts$House;", Cond.fieldLink RX2 18 "GoalLifts$History" "next" "I", Cond.fieldLink RX2 32 "GoalLifts$History" "count" "I", Cond.methodLink RX2 35 Lib.Math.min.name, Cond.static Lib.Math.min.name, Cond.initialized "java/lang/Math", Cond.code Lib.Math.min.name Lib.Math.min.code 2 (some .int), Cond.methodLink RX2 22 yX3_copyFrom]
def wsX4_fail_r2 : List Cond := [Cond.instanceMethod yX3_copyFrom, Cond.selects RX3 yX3_copyFrom yX3_copyFrom, Cond.initialized RX3, Cond.code yX3_copyFrom cX3_copyFrom 2 none, Cond.fieldLink RX3 29 "GoalLifts$House" "tick" "I", Cond.fieldLink RX3 9 "GoalLifts$House" "awake" "[I", Cond.methodLink RX3 33 arraycopyName, Cond.native arraycopyName, Cond.static arraycopyName, Cond.initialized "java/lang/System", Cond.fieldLink RX3 18 "GoalLifts$House" "cars" "LGoalLifts$Cars;", Cond.fieldLink RX3 25 "GoalLifts$House" "callers" "LGoalLifts$Callers;", Cond.methodLink RX3 39 yX1_copyFrom, Cond.instanceMethod yX1_copyFrom, Cond.selects RX1 yX1_copyFrom yX1_copyFrom, Cond.code yX1_copyFrom cX1_copyFrom 2 none, Cond.fieldLink RX1 34 "GoalLifts$Cars" "stopsMade" "I", Cond.fieldLink RX1 9 "GoalLifts$Cars" "lowest" "[I", Cond.methodLink RX1 37 arraycopyName, Cond.fieldLink RX1 15 "GoalLifts$Cars" "highest" "[I", Cond.fieldLink RX1 18 "GoalLifts$Cars" "places" "[I", Cond.fieldLink RX1 21 "GoalLifts$Cars" "floor" "[I", Cond.fieldLink RX1 24 "GoalLifts$Cars" "state" "[I", Cond.fieldLink RX1 27 "GoalLifts$Cars" "travelled" "[I"]
def wsX4_fail_r3 : List Cond := [Cond.methodLink RX3 43 yX0_copyFrom, Cond.instanceMethod yX0_copyFrom, Cond.selects RX0 yX0_copyFrom yX0_copyFrom, Cond.initialized RX0, Cond.code yX0_copyFrom cX0_copyFrom 2 none, Cond.fieldLink RX0 36 "GoalLifts$Callers" "count" "I", Cond.fieldLink RX0 9 "GoalLifts$Callers" "floor" "[I", Cond.methodLink RX0 40 arraycopyName, Cond.fieldLink RX0 15 "GoalLifts$Callers" "goal" "[I", Cond.fieldLink RX0 18 "GoalLifts$Callers" "phase" "[I", Cond.fieldLink RX0 21 "GoalLifts$Callers" "given" "[I", Cond.fieldLink RX0 24 "GoalLifts$Callers" "calledAt" "[I", Cond.fieldLink RX0 27 "GoalLifts$Callers" "rodeAt" "[I", Cond.fieldLink RX0 30 "GoalLifts$Callers" "thereAt" "[I", Cond.fieldLink RX0 33 "GoalLifts$Callers" "timesGiven" "[I", Cond.methodLink RX2 26 yJ9_floorMod_7cf53, Cond.static yJ9_floorMod_7cf53, Cond.initialized RJ9, Cond.code yJ9_floorMod_7cf53 cJ9_floorMod_7cf53 3 (some .int), Cond.methodLink RX4 68 yX3_breakCar, Cond.instanceMethod yX3_breakCar, Cond.selects RX3 yX3_breakCar yX3_breakCar, Cond.code yX3_breakCar cX3_breakCar 2 none, Cond.fieldLink RX3 50 "GoalLifts$Cars" "state" "[I"]
def wsX4_fail_r4 : List Cond := [Cond.fieldLink RX3 61 "GoalLifts$Cars" "floor" "[I", Cond.methodLink RX3 131 yX0_loseCar, Cond.instanceMethod yX0_loseCar, Cond.selects RX0 yX0_loseCar yX0_loseCar, Cond.code yX0_loseCar cX0_loseCar 6 none, Cond.methodLink RX0 58 yX0_rides, Cond.instanceMethod yX0_rides, Cond.selects RX0 yX0_rides yX0_rides, Cond.code yX0_rides cX0_rides 3 (some .boolean), Cond.methodLink RX0 54 yX0_waitsFor, Cond.instanceMethod yX0_waitsFor, Cond.selects RX0 yX0_waitsFor yX0_waitsFor, Cond.code yX0_waitsFor cX0_waitsFor 3 (some .boolean), Cond.methodLink RX4 72 yX0_numberIn, Cond.instanceMethod yX0_numberIn, Cond.selects RX0 yX0_numberIn yX0_numberIn, Cond.code yX0_numberIn cX0_numberIn 4 (some .int)]
def wsX4_fail : List Cond := .code yX4_fail cX4_fail 2 (some .int) :: ((wsX4_fail_r1 ++ (wsX4_fail_r2 ++ (wsX4_fail_r3 ++ wsX4_fail_r4))) ++ wsX40 ++ wsX30 ++ wsX10 ++ wsX20 ++ wsX00)
def wsX4_repair_r1 : List Cond := [Cond.fieldLink RX4 10 "GoalLifts" "house" "LGoalLifts$House;", Cond.fieldLink RX4 30 "GoalLifts$House" "cars" "LGoalLifts$Cars;", Cond.fieldLink RX4 55 "GoalLifts$Cars" "state" "[I", Cond.fieldLink RX4 22 "GoalLifts" "history" "LGoalLifts$History;", Cond.fieldLink RX4 75 "GoalLifts$Cars" "floor" "[I", Cond.methodLink RX4 52 yX1_has, Cond.instanceMethod yX1_has, Cond.selects RX1 yX1_has yX1_has, Cond.initialized RX1, Cond.code yX1_has cX1_has 2 (some .boolean), Cond.fieldLink RX1 30 "GoalLifts$Cars" "count" "I", Cond.methodLink RX4 40 yX2_keep, Cond.instanceMethod yX2_keep, Cond.selects RX2 yX2_keep yX2_keep, Cond.initialized RX2, Cond.code yX2_keep cX2_keep 3 none, Cond.fieldLink RX2 11 "GoalLifts$History" "states" "[LGoalLifts$House;", Cond.fieldLink RX2 18 "GoalLifts$History" "next" "I", Cond.fieldLink RX2 32 "GoalLifts$History" "count" "I", Cond.methodLink RX2 35 Lib.Math.min.name, Cond.static Lib.Math.min.name, Cond.initialized "java/lang/Math", Cond.code Lib.Math.min.name Lib.Math.min.code 2 (some .int), Cond.methodLink RX2 22 yX3_copyFrom]
def wsX4_repair_r2 : List Cond := [Cond.instanceMethod yX3_copyFrom, Cond.selects RX3 yX3_copyFrom yX3_copyFrom, Cond.initialized RX3, Cond.code yX3_copyFrom cX3_copyFrom 2 none, Cond.fieldLink RX3 29 "GoalLifts$House" "tick" "I", Cond.fieldLink RX3 9 "GoalLifts$House" "awake" "[I", Cond.methodLink RX3 33 arraycopyName, Cond.native arraycopyName, Cond.static arraycopyName, Cond.initialized "java/lang/System", Cond.fieldLink RX3 18 "GoalLifts$House" "cars" "LGoalLifts$Cars;", Cond.fieldLink RX3 25 "GoalLifts$House" "callers" "LGoalLifts$Callers;", Cond.methodLink RX3 39 yX1_copyFrom, Cond.instanceMethod yX1_copyFrom, Cond.selects RX1 yX1_copyFrom yX1_copyFrom, Cond.code yX1_copyFrom cX1_copyFrom 2 none, Cond.fieldLink RX1 34 "GoalLifts$Cars" "stopsMade" "I", Cond.fieldLink RX1 9 "GoalLifts$Cars" "lowest" "[I", Cond.methodLink RX1 37 arraycopyName, Cond.fieldLink RX1 15 "GoalLifts$Cars" "highest" "[I", Cond.fieldLink RX1 18 "GoalLifts$Cars" "places" "[I", Cond.fieldLink RX1 21 "GoalLifts$Cars" "floor" "[I", Cond.fieldLink RX1 24 "GoalLifts$Cars" "state" "[I", Cond.fieldLink RX1 27 "GoalLifts$Cars" "travelled" "[I"]
def wsX4_repair_r3 : List Cond := [Cond.methodLink RX3 43 yX0_copyFrom, Cond.instanceMethod yX0_copyFrom, Cond.selects RX0 yX0_copyFrom yX0_copyFrom, Cond.initialized RX0, Cond.code yX0_copyFrom cX0_copyFrom 2 none, Cond.fieldLink RX0 36 "GoalLifts$Callers" "count" "I", Cond.fieldLink RX0 9 "GoalLifts$Callers" "floor" "[I", Cond.methodLink RX0 40 arraycopyName, Cond.fieldLink RX0 15 "GoalLifts$Callers" "goal" "[I", Cond.fieldLink RX0 18 "GoalLifts$Callers" "phase" "[I", Cond.fieldLink RX0 21 "GoalLifts$Callers" "given" "[I", Cond.fieldLink RX0 24 "GoalLifts$Callers" "calledAt" "[I", Cond.fieldLink RX0 27 "GoalLifts$Callers" "rodeAt" "[I", Cond.fieldLink RX0 30 "GoalLifts$Callers" "thereAt" "[I", Cond.fieldLink RX0 33 "GoalLifts$Callers" "timesGiven" "[I", Cond.methodLink RX2 26 yJ9_floorMod_7cf53, Cond.static yJ9_floorMod_7cf53, Cond.initialized RJ9, Cond.code yJ9_floorMod_7cf53 cJ9_floorMod_7cf53 3 (some .int)]
def wsX4_repair : List Cond := .code yX4_repair cX4_repair 2 (some .int) :: ((wsX4_repair_r1 ++ (wsX4_repair_r2 ++ wsX4_repair_r3)) ++ wsX40 ++ wsX30 ++ wsX10 ++ wsX20 ++ wsX00)
def wsX4_isWay : List Cond := .code yX4_isWay cX4_isWay 2 (some .boolean) :: ([.methodLink RX4 26 yX4_isFloor, .static yX4_isFloor, .initialized RX4, .code yX4_isFloor cX4_isFloor 1 (some .boolean)])
def wsX4_call_r1 : List Cond := [Cond.fieldLink RX4 10 "GoalLifts" "house" "LGoalLifts$House;", Cond.fieldLink RX4 58 "GoalLifts$House" "callers" "LGoalLifts$Callers;", Cond.fieldLink RX4 82 "GoalLifts$Callers" "count" "I", Cond.fieldLink RX4 22 "GoalLifts" "history" "LGoalLifts$History;", Cond.fieldLink RX4 87 "GoalLifts$House" "tick" "I", Cond.methodLink RX4 78 yX4_isWay, Cond.static yX4_isWay, Cond.initialized RX4, Cond.code yX4_isWay cX4_isWay 2 (some .boolean), Cond.methodLink RX4 26 yX4_isFloor, Cond.static yX4_isFloor, Cond.code yX4_isFloor cX4_isFloor 1 (some .boolean), Cond.methodLink RX4 40 yX2_keep, Cond.instanceMethod yX2_keep, Cond.selects RX2 yX2_keep yX2_keep, Cond.initialized RX2, Cond.code yX2_keep cX2_keep 3 none, Cond.fieldLink RX2 11 "GoalLifts$History" "states" "[LGoalLifts$House;", Cond.fieldLink RX2 18 "GoalLifts$History" "next" "I", Cond.fieldLink RX2 32 "GoalLifts$History" "count" "I", Cond.methodLink RX2 35 Lib.Math.min.name, Cond.static Lib.Math.min.name, Cond.initialized "java/lang/Math", Cond.code Lib.Math.min.name Lib.Math.min.code 2 (some .int)]
def wsX4_call_r2 : List Cond := [Cond.methodLink RX2 22 yX3_copyFrom, Cond.instanceMethod yX3_copyFrom, Cond.selects RX3 yX3_copyFrom yX3_copyFrom, Cond.initialized RX3, Cond.code yX3_copyFrom cX3_copyFrom 2 none, Cond.fieldLink RX3 29 "GoalLifts$House" "tick" "I", Cond.fieldLink RX3 9 "GoalLifts$House" "awake" "[I", Cond.methodLink RX3 33 arraycopyName, Cond.native arraycopyName, Cond.static arraycopyName, Cond.initialized "java/lang/System", Cond.fieldLink RX3 18 "GoalLifts$House" "cars" "LGoalLifts$Cars;", Cond.fieldLink RX3 25 "GoalLifts$House" "callers" "LGoalLifts$Callers;", Cond.methodLink RX3 39 yX1_copyFrom, Cond.instanceMethod yX1_copyFrom, Cond.selects RX1 yX1_copyFrom yX1_copyFrom, Cond.initialized RX1, Cond.code yX1_copyFrom cX1_copyFrom 2 none, Cond.fieldLink RX1 30 "GoalLifts$Cars" "count" "I", Cond.fieldLink RX1 34 "GoalLifts$Cars" "stopsMade" "I", Cond.fieldLink RX1 9 "GoalLifts$Cars" "lowest" "[I", Cond.methodLink RX1 37 arraycopyName, Cond.fieldLink RX1 15 "GoalLifts$Cars" "highest" "[I", Cond.fieldLink RX1 18 "GoalLifts$Cars" "places" "[I"]
def wsX4_call_r3 : List Cond := [Cond.fieldLink RX1 21 "GoalLifts$Cars" "floor" "[I", Cond.fieldLink RX1 24 "GoalLifts$Cars" "state" "[I", Cond.fieldLink RX1 27 "GoalLifts$Cars" "travelled" "[I", Cond.methodLink RX3 43 yX0_copyFrom, Cond.instanceMethod yX0_copyFrom, Cond.selects RX0 yX0_copyFrom yX0_copyFrom, Cond.initialized RX0, Cond.code yX0_copyFrom cX0_copyFrom 2 none, Cond.fieldLink RX0 36 "GoalLifts$Callers" "count" "I", Cond.fieldLink RX0 9 "GoalLifts$Callers" "floor" "[I", Cond.methodLink RX0 40 arraycopyName, Cond.fieldLink RX0 15 "GoalLifts$Callers" "goal" "[I", Cond.fieldLink RX0 18 "GoalLifts$Callers" "phase" "[I", Cond.fieldLink RX0 21 "GoalLifts$Callers" "given" "[I", Cond.fieldLink RX0 24 "GoalLifts$Callers" "calledAt" "[I", Cond.fieldLink RX0 27 "GoalLifts$Callers" "rodeAt" "[I", Cond.fieldLink RX0 30 "GoalLifts$Callers" "thereAt" "[I", Cond.fieldLink RX0 33 "GoalLifts$Callers" "timesGiven" "[I", Cond.methodLink RX2 26 yJ9_floorMod_7cf53, Cond.static yJ9_floorMod_7cf53, Cond.initialized RJ9, Cond.code yJ9_floorMod_7cf53 cJ9_floorMod_7cf53 3 (some .int), Cond.methodLink RX4 83 yX3_bestCar, Cond.instanceMethod yX3_bestCar]
def wsX4_call_r4 : List Cond := [Cond.selects RX3 yX3_bestCar yX3_bestCar, Cond.code yX3_bestCar cX3_bestCar 7 (some .int), Cond.fieldLink RX3 81 "GoalLifts$Cars" "count" "I", Cond.methodLink RX3 84 yX3_canBeGiven, Cond.instanceMethod yX3_canBeGiven, Cond.selects RX3 yX3_canBeGiven yX3_canBeGiven, Cond.code yX3_canBeGiven cX3_canBeGiven 4 (some .boolean), Cond.fieldLink RX3 50 "GoalLifts$Cars" "state" "[I", Cond.methodLink RX3 53 yX3_isAwake, Cond.instanceMethod yX3_isAwake, Cond.selects RX3 yX3_isAwake yX3_isAwake, Cond.code yX3_isAwake cX3_isAwake 2 (some .boolean), Cond.methodLink RX3 46 yX3_hour, Cond.instanceMethod yX3_hour, Cond.selects RX3 yX3_hour yX3_hour, Cond.code yX3_hour cX3_hour 1 (some .int), Cond.methodLink RX3 57 yX1_serves, Cond.instanceMethod yX1_serves, Cond.selects RX1 yX1_serves yX1_serves, Cond.code yX1_serves cX1_serves 3 (some .boolean), Cond.methodLink RX3 88 yX3_costOf, Cond.instanceMethod yX3_costOf, Cond.selects RX3 yX3_costOf yX3_costOf, Cond.code yX3_costOf cX3_costOf 6 (some .int)]
def wsX4_call_r5 : List Cond := [Cond.fieldLink RX3 61 "GoalLifts$Cars" "floor" "[I", Cond.methodLink RX3 64 Lib.Math.abs.name, Cond.static Lib.Math.abs.name, Cond.code Lib.Math.abs.name Lib.Math.abs.code 1 (some .int), Cond.methodLink RX3 70 yX0_stopsOf, Cond.instanceMethod yX0_stopsOf, Cond.selects RX0 yX0_stopsOf yX0_stopsOf, Cond.code yX0_stopsOf cX0_stopsOf 4 (some .int), Cond.methodLink RX0 54 yX0_waitsFor, Cond.instanceMethod yX0_waitsFor, Cond.selects RX0 yX0_waitsFor yX0_waitsFor, Cond.code yX0_waitsFor cX0_waitsFor 3 (some .boolean), Cond.methodLink RX0 58 yX0_rides, Cond.instanceMethod yX0_rides, Cond.selects RX0 yX0_rides yX0_rides, Cond.code yX0_rides cX0_rides 3 (some .boolean), Cond.methodLink RX3 73 yJ6_bitCount_0f7a4, Cond.static yJ6_bitCount_0f7a4, Cond.initialized RJ6, Cond.code yJ6_bitCount_0f7a4 cJ6_bitCount_0f7a4 1 (some .int), Cond.constant RJ6 265 (1431655765), Cond.constant RJ6 266 (858993459), Cond.constant RJ6 267 (252645135), Cond.methodLink RX3 78 yX0_numberWith]
def wsX4_call_r6 : List Cond := [Cond.instanceMethod yX0_numberWith, Cond.selects RX0 yX0_numberWith yX0_numberWith, Cond.code yX0_numberWith cX0_numberWith 2 (some .int), Cond.methodLink RX0 50 yX0_numberOf, Cond.instanceMethod yX0_numberOf, Cond.selects RX0 yX0_numberOf yX0_numberOf, Cond.code yX0_numberOf cX0_numberOf 5 (some .int), Cond.methodLink RX4 90 yX0_add, Cond.instanceMethod yX0_add, Cond.selects RX0 yX0_add yX0_add, Cond.code yX0_add cX0_add 5 (some .int), Cond.methodLink RX4 91 yX0_give, Cond.instanceMethod yX0_give, Cond.selects RX0 yX0_give yX0_give, Cond.code yX0_give cX0_give 3 none, Cond.methodLink RX0 46 yX0_has, Cond.instanceMethod yX0_has, Cond.selects RX0 yX0_has yX0_has, Cond.code yX0_has cX0_has 2 (some .boolean)]
def wsX4_call : List Cond := .code yX4_call cX4_call 5 (some .int) :: ((wsX4_call_r1 ++ (wsX4_call_r2 ++ (wsX4_call_r3 ++ (wsX4_call_r4 ++ (wsX4_call_r5 ++ wsX4_call_r6))))) ++ wsX40 ++ wsX30 ++ wsX00 ++ wsX20 ++ wsX10)
def wsX4_pass_r1 : List Cond := [Cond.fieldLink RX4 10 "GoalLifts" "house" "LGoalLifts$House;", Cond.fieldLink RX4 87 "GoalLifts$House" "tick" "I", Cond.fieldLink RX4 22 "GoalLifts" "history" "LGoalLifts$History;", Cond.fieldLink RX4 58 "GoalLifts$House" "callers" "LGoalLifts$Callers;", Cond.methodLink RX4 40 yX2_keep, Cond.instanceMethod yX2_keep, Cond.selects RX2 yX2_keep yX2_keep, Cond.initialized RX2, Cond.code yX2_keep cX2_keep 3 none, Cond.fieldLink RX2 11 "GoalLifts$History" "states" "[LGoalLifts$House;", Cond.fieldLink RX2 18 "GoalLifts$History" "next" "I", Cond.fieldLink RX2 32 "GoalLifts$History" "count" "I", Cond.methodLink RX2 35 Lib.Math.min.name, Cond.static Lib.Math.min.name, Cond.initialized "java/lang/Math", Cond.code Lib.Math.min.name Lib.Math.min.code 2 (some .int), Cond.methodLink RX2 22 yX3_copyFrom, Cond.instanceMethod yX3_copyFrom, Cond.selects RX3 yX3_copyFrom yX3_copyFrom, Cond.initialized RX3, Cond.code yX3_copyFrom cX3_copyFrom 2 none, Cond.fieldLink RX3 29 "GoalLifts$House" "tick" "I", Cond.fieldLink RX3 9 "GoalLifts$House" "awake" "[I", Cond.methodLink RX3 33 arraycopyName]
def wsX4_pass_r2 : List Cond := [Cond.native arraycopyName, Cond.static arraycopyName, Cond.initialized "java/lang/System", Cond.fieldLink RX3 18 "GoalLifts$House" "cars" "LGoalLifts$Cars;", Cond.fieldLink RX3 25 "GoalLifts$House" "callers" "LGoalLifts$Callers;", Cond.methodLink RX3 39 yX1_copyFrom, Cond.instanceMethod yX1_copyFrom, Cond.selects RX1 yX1_copyFrom yX1_copyFrom, Cond.initialized RX1, Cond.code yX1_copyFrom cX1_copyFrom 2 none, Cond.fieldLink RX1 30 "GoalLifts$Cars" "count" "I", Cond.fieldLink RX1 34 "GoalLifts$Cars" "stopsMade" "I", Cond.fieldLink RX1 9 "GoalLifts$Cars" "lowest" "[I", Cond.methodLink RX1 37 arraycopyName, Cond.fieldLink RX1 15 "GoalLifts$Cars" "highest" "[I", Cond.fieldLink RX1 18 "GoalLifts$Cars" "places" "[I", Cond.fieldLink RX1 21 "GoalLifts$Cars" "floor" "[I", Cond.fieldLink RX1 24 "GoalLifts$Cars" "state" "[I", Cond.fieldLink RX1 27 "GoalLifts$Cars" "travelled" "[I", Cond.methodLink RX3 43 yX0_copyFrom, Cond.instanceMethod yX0_copyFrom, Cond.selects RX0 yX0_copyFrom yX0_copyFrom, Cond.initialized RX0, Cond.code yX0_copyFrom cX0_copyFrom 2 none]
def wsX4_pass_r3 : List Cond := [Cond.fieldLink RX0 36 "GoalLifts$Callers" "count" "I", Cond.fieldLink RX0 9 "GoalLifts$Callers" "floor" "[I", Cond.methodLink RX0 40 arraycopyName, Cond.fieldLink RX0 15 "GoalLifts$Callers" "goal" "[I", Cond.fieldLink RX0 18 "GoalLifts$Callers" "phase" "[I", Cond.fieldLink RX0 21 "GoalLifts$Callers" "given" "[I", Cond.fieldLink RX0 24 "GoalLifts$Callers" "calledAt" "[I", Cond.fieldLink RX0 27 "GoalLifts$Callers" "rodeAt" "[I", Cond.fieldLink RX0 30 "GoalLifts$Callers" "thereAt" "[I", Cond.fieldLink RX0 33 "GoalLifts$Callers" "timesGiven" "[I", Cond.methodLink RX2 26 yJ9_floorMod_7cf53, Cond.static yJ9_floorMod_7cf53, Cond.initialized RJ9, Cond.code yJ9_floorMod_7cf53 cJ9_floorMod_7cf53 3 (some .int), Cond.methodLink RX4 95 yX3_oneTick, Cond.instanceMethod yX3_oneTick, Cond.selects RX3 yX3_oneTick yX3_oneTick, Cond.code yX3_oneTick cX3_oneTick 2 none, Cond.fieldLink RX3 92 "GoalLifts$Callers" "count" "I", Cond.fieldLink RX3 93 "GoalLifts$Callers" "phase" "[I", Cond.fieldLink RX3 96 "GoalLifts$Callers" "floor" "[I", Cond.fieldLink RX3 97 "GoalLifts$Callers" "goal" "[I", Cond.fieldLink RX3 81 "GoalLifts$Cars" "count" "I", Cond.fieldLink RX3 50 "GoalLifts$Cars" "state" "[I"]
def wsX4_pass_r4 : List Cond := [Cond.methodLink RX3 100 yX3_bestCar, Cond.instanceMethod yX3_bestCar, Cond.selects RX3 yX3_bestCar yX3_bestCar, Cond.code yX3_bestCar cX3_bestCar 7 (some .int), Cond.methodLink RX3 84 yX3_canBeGiven, Cond.instanceMethod yX3_canBeGiven, Cond.selects RX3 yX3_canBeGiven yX3_canBeGiven, Cond.code yX3_canBeGiven cX3_canBeGiven 4 (some .boolean), Cond.methodLink RX3 53 yX3_isAwake, Cond.instanceMethod yX3_isAwake, Cond.selects RX3 yX3_isAwake yX3_isAwake, Cond.code yX3_isAwake cX3_isAwake 2 (some .boolean), Cond.methodLink RX3 46 yX3_hour, Cond.instanceMethod yX3_hour, Cond.selects RX3 yX3_hour yX3_hour, Cond.code yX3_hour cX3_hour 1 (some .int), Cond.methodLink RX3 57 yX1_serves, Cond.instanceMethod yX1_serves, Cond.selects RX1 yX1_serves yX1_serves, Cond.code yX1_serves cX1_serves 3 (some .boolean), Cond.methodLink RX3 88 yX3_costOf, Cond.instanceMethod yX3_costOf, Cond.selects RX3 yX3_costOf yX3_costOf, Cond.code yX3_costOf cX3_costOf 6 (some .int)]
def wsX4_pass_r5 : List Cond := [Cond.fieldLink RX3 61 "GoalLifts$Cars" "floor" "[I", Cond.methodLink RX3 64 Lib.Math.abs.name, Cond.static Lib.Math.abs.name, Cond.code Lib.Math.abs.name Lib.Math.abs.code 1 (some .int), Cond.methodLink RX3 70 yX0_stopsOf, Cond.instanceMethod yX0_stopsOf, Cond.selects RX0 yX0_stopsOf yX0_stopsOf, Cond.code yX0_stopsOf cX0_stopsOf 4 (some .int), Cond.methodLink RX0 54 yX0_waitsFor, Cond.instanceMethod yX0_waitsFor, Cond.selects RX0 yX0_waitsFor yX0_waitsFor, Cond.code yX0_waitsFor cX0_waitsFor 3 (some .boolean), Cond.methodLink RX0 58 yX0_rides, Cond.instanceMethod yX0_rides, Cond.selects RX0 yX0_rides yX0_rides, Cond.code yX0_rides cX0_rides 3 (some .boolean), Cond.methodLink RX3 73 yJ6_bitCount_0f7a4, Cond.static yJ6_bitCount_0f7a4, Cond.initialized RJ6, Cond.code yJ6_bitCount_0f7a4 cJ6_bitCount_0f7a4 1 (some .int), Cond.constant RJ6 265 (1431655765), Cond.constant RJ6 266 (858993459), Cond.constant RJ6 267 (252645135), Cond.methodLink RX3 78 yX0_numberWith]
def wsX4_pass_r6 : List Cond := [Cond.instanceMethod yX0_numberWith, Cond.selects RX0 yX0_numberWith yX0_numberWith, Cond.code yX0_numberWith cX0_numberWith 2 (some .int), Cond.methodLink RX0 50 yX0_numberOf, Cond.instanceMethod yX0_numberOf, Cond.selects RX0 yX0_numberOf yX0_numberOf, Cond.code yX0_numberOf cX0_numberOf 5 (some .int), Cond.methodLink RX3 104 yX0_give, Cond.instanceMethod yX0_give, Cond.selects RX0 yX0_give yX0_give, Cond.code yX0_give cX0_give 3 none, Cond.methodLink RX0 46 yX0_has, Cond.instanceMethod yX0_has, Cond.selects RX0 yX0_has yX0_has, Cond.code yX0_has cX0_has 2 (some .boolean), Cond.methodLink RX3 108 yX3_stopOrTravel, Cond.instanceMethod yX3_stopOrTravel, Cond.selects RX3 yX3_stopOrTravel yX3_stopOrTravel, Cond.code yX3_stopOrTravel cX3_stopOrTravel 6 none, Cond.fieldLink RX3 115 "GoalLifts$Cars" "places" "[I", Cond.fieldLink RX3 122 "GoalLifts$Cars" "stopsMade" "I", Cond.methodLink RX3 112 yX0_letOut, Cond.instanceMethod yX0_letOut, Cond.selects RX0 yX0_letOut yX0_letOut]
def wsX4_pass_r7 : List Cond := [Cond.code yX0_letOut cX0_letOut 6 (some .int), Cond.methodLink RX3 118 yX0_takeIn, Cond.instanceMethod yX0_takeIn, Cond.selects RX0 yX0_takeIn yX0_takeIn, Cond.code yX0_takeIn cX0_takeIn 8 (some .int), Cond.methodLink RX3 125 yX0_aimOf, Cond.instanceMethod yX0_aimOf, Cond.selects RX0 yX0_aimOf yX0_aimOf, Cond.code yX0_aimOf cX0_aimOf 6 (some .int), Cond.methodLink RX0 61 yX0_isNearer, Cond.static yX0_isNearer, Cond.code yX0_isNearer cX0_isNearer 5 (some .boolean), Cond.methodLink RX0 65 Lib.Math.abs.name, Cond.methodLink RX3 128 yX1_travelTowards, Cond.instanceMethod yX1_travelTowards, Cond.selects RX1 yX1_travelTowards yX1_travelTowards, Cond.code yX1_travelTowards cX1_travelTowards 3 none, Cond.methodLink RX4 72 yX0_numberIn, Cond.instanceMethod yX0_numberIn, Cond.selects RX0 yX0_numberIn yX0_numberIn, Cond.code yX0_numberIn cX0_numberIn 4 (some .int)]
def wsX4_pass : List Cond := .code yX4_pass cX4_pass 3 (some .int) :: ((wsX4_pass_r1 ++ (wsX4_pass_r2 ++ (wsX4_pass_r3 ++ (wsX4_pass_r4 ++ (wsX4_pass_r5 ++ (wsX4_pass_r6 ++ wsX4_pass_r7)))))) ++ wsX40 ++ wsX30 ++ wsX20 ++ wsX10 ++ wsX00)
def wsX4_count_r1 : List Cond := [Cond.fieldLink RX4 10 "GoalLifts" "house" "LGoalLifts$House;", Cond.fieldLink RX4 87 "GoalLifts$House" "tick" "I", Cond.fieldLink RX4 30 "GoalLifts$House" "cars" "LGoalLifts$Cars;", Cond.fieldLink RX4 34 "GoalLifts$Cars" "count" "I", Cond.fieldLink RX4 58 "GoalLifts$House" "callers" "LGoalLifts$Callers;", Cond.fieldLink RX4 82 "GoalLifts$Callers" "count" "I", Cond.fieldLink RX4 112 "GoalLifts$Cars" "stopsMade" "I", Cond.fieldLink RX4 22 "GoalLifts" "history" "LGoalLifts$History;", Cond.fieldLink RX4 98 "GoalLifts$History" "count" "I", Cond.methodLink RX4 102 yX3_hour, Cond.instanceMethod yX3_hour, Cond.selects RX3 yX3_hour yX3_hour, Cond.initialized RX3, Cond.code yX3_hour cX3_hour 1 (some .int), Cond.fieldLink RX3 29 "GoalLifts$House" "tick" "I", Cond.methodLink RX4 72 yX0_numberIn, Cond.instanceMethod yX0_numberIn, Cond.selects RX0 yX0_numberIn yX0_numberIn, Cond.initialized RX0, Cond.code yX0_numberIn cX0_numberIn 4 (some .int), Cond.fieldLink RX0 36 "GoalLifts$Callers" "count" "I", Cond.fieldLink RX0 18 "GoalLifts$Callers" "phase" "[I", Cond.methodLink RX4 106 yX0_numberOfGroups, Cond.instanceMethod yX0_numberOfGroups]
def wsX4_count_r2 : List Cond := [Cond.selects RX0 yX0_numberOfGroups yX0_numberOfGroups, Cond.code yX0_numberOfGroups cX0_numberOfGroups 3 (some .int), Cond.methodLink RX0 77 yX0_isFirstOfGroup, Cond.instanceMethod yX0_isFirstOfGroup, Cond.selects RX0 yX0_isFirstOfGroup yX0_isFirstOfGroup, Cond.code yX0_isFirstOfGroup cX0_isFirstOfGroup 3 (some .boolean), Cond.methodLink RX0 74 yX0_sameGroup, Cond.instanceMethod yX0_sameGroup, Cond.selects RX0 yX0_sameGroup yX0_sameGroup, Cond.code yX0_sameGroup cX0_sameGroup 3 (some .boolean), Cond.fieldLink RX0 9 "GoalLifts$Callers" "floor" "[I", Cond.fieldLink RX0 15 "GoalLifts$Callers" "goal" "[I", Cond.methodLink RX0 71 yX0_isInGroup, Cond.instanceMethod yX0_isInGroup, Cond.selects RX0 yX0_isInGroup yX0_isInGroup, Cond.code yX0_isInGroup cX0_isInGroup 2 (some .boolean), Cond.methodLink RX4 109 yX1_travelledByAll, Cond.instanceMethod yX1_travelledByAll, Cond.selects RX1 yX1_travelledByAll yX1_travelledByAll, Cond.initialized RX1, Cond.code yX1_travelledByAll cX1_travelledByAll 3 (some .int), Cond.fieldLink RX1 30 "GoalLifts$Cars" "count" "I", Cond.fieldLink RX1 27 "GoalLifts$Cars" "travelled" "[I", Cond.methodLink RX4 115 yX1_numberIn]
def wsX4_count_r3 : List Cond := [Cond.instanceMethod yX1_numberIn, Cond.selects RX1 yX1_numberIn yX1_numberIn, Cond.code yX1_numberIn cX1_numberIn 4 (some .int), Cond.fieldLink RX1 24 "GoalLifts$Cars" "state" "[I"]
def wsX4_count : List Cond := .code yX4_count cX4_count 2 (some .int) :: ((wsX4_count_r1 ++ (wsX4_count_r2 ++ wsX4_count_r3)) ++ wsX40 ++ wsX30 ++ wsX10 ++ wsX00 ++ wsX20)
def wsX4_car_r1 : List Cond := [Cond.fieldLink RX4 10 "GoalLifts" "house" "LGoalLifts$House;", Cond.fieldLink RX4 30 "GoalLifts$House" "cars" "LGoalLifts$Cars;", Cond.fieldLink RX4 75 "GoalLifts$Cars" "floor" "[I", Cond.fieldLink RX4 55 "GoalLifts$Cars" "state" "[I", Cond.fieldLink RX4 58 "GoalLifts$House" "callers" "LGoalLifts$Callers;", Cond.fieldLink RX4 130 "GoalLifts$Cars" "travelled" "[I", Cond.methodLink RX4 52 yX1_has, Cond.instanceMethod yX1_has, Cond.selects RX1 yX1_has yX1_has, Cond.initialized RX1, Cond.code yX1_has cX1_has 2 (some .boolean), Cond.fieldLink RX1 30 "GoalLifts$Cars" "count" "I", Cond.methodLink RX4 116 yX0_numberOf, Cond.instanceMethod yX0_numberOf, Cond.selects RX0 yX0_numberOf yX0_numberOf, Cond.initialized RX0, Cond.code yX0_numberOf cX0_numberOf 5 (some .int), Cond.fieldLink RX0 36 "GoalLifts$Callers" "count" "I", Cond.fieldLink RX0 18 "GoalLifts$Callers" "phase" "[I", Cond.fieldLink RX0 21 "GoalLifts$Callers" "given" "[I", Cond.methodLink RX4 119 yX0_stopsOf, Cond.instanceMethod yX0_stopsOf, Cond.selects RX0 yX0_stopsOf yX0_stopsOf, Cond.code yX0_stopsOf cX0_stopsOf 4 (some .int)]
def wsX4_car_r2 : List Cond := [Cond.fieldLink RX0 9 "GoalLifts$Callers" "floor" "[I", Cond.fieldLink RX0 15 "GoalLifts$Callers" "goal" "[I", Cond.methodLink RX0 54 yX0_waitsFor, Cond.instanceMethod yX0_waitsFor, Cond.selects RX0 yX0_waitsFor yX0_waitsFor, Cond.code yX0_waitsFor cX0_waitsFor 3 (some .boolean), Cond.methodLink RX0 58 yX0_rides, Cond.instanceMethod yX0_rides, Cond.selects RX0 yX0_rides yX0_rides, Cond.code yX0_rides cX0_rides 3 (some .boolean), Cond.methodLink RX4 122 yJ6_bitCount_0f7a4, Cond.static yJ6_bitCount_0f7a4, Cond.initialized RJ6, Cond.code yJ6_bitCount_0f7a4 cJ6_bitCount_0f7a4 1 (some .int), Cond.constant RJ6 265 (1431655765), Cond.constant RJ6 266 (858993459), Cond.constant RJ6 267 (252645135), Cond.methodLink RX4 127 yX0_aimOf, Cond.instanceMethod yX0_aimOf, Cond.selects RX0 yX0_aimOf yX0_aimOf, Cond.code yX0_aimOf cX0_aimOf 6 (some .int), Cond.methodLink RX0 61 yX0_isNearer, Cond.static yX0_isNearer, Cond.code yX0_isNearer cX0_isNearer 5 (some .boolean)]
def wsX4_car_r3 : List Cond := [Cond.methodLink RX0 65 Lib.Math.abs.name, Cond.static Lib.Math.abs.name, Cond.initialized "java/lang/Math", Cond.code Lib.Math.abs.name Lib.Math.abs.code 1 (some .int), Cond.methodLink RX4 133 yX3_isAwake, Cond.instanceMethod yX3_isAwake, Cond.selects RX3 yX3_isAwake yX3_isAwake, Cond.initialized RX3, Cond.code yX3_isAwake cX3_isAwake 2 (some .boolean), Cond.fieldLink RX3 9 "GoalLifts$House" "awake" "[I", Cond.methodLink RX3 46 yX3_hour, Cond.instanceMethod yX3_hour, Cond.selects RX3 yX3_hour yX3_hour, Cond.code yX3_hour cX3_hour 1 (some .int), Cond.fieldLink RX3 29 "GoalLifts$House" "tick" "I"]
def wsX4_car : List Cond := .code yX4_car cX4_car 3 (some .int) :: ((wsX4_car_r1 ++ (wsX4_car_r2 ++ wsX4_car_r3)) ++ wsX40 ++ wsX30 ++ wsX10 ++ wsX00)
def wsX4_caller : List Cond := .code yX4_caller cX4_caller 3 (some .int) :: ([.fieldLink RX4 10 "GoalLifts" "house" "LGoalLifts$House;", .fieldLink RX4 58 "GoalLifts$House" "callers" "LGoalLifts$Callers;", .fieldLink RX4 137 "GoalLifts$Callers" "floor" "[I", .fieldLink RX4 138 "GoalLifts$Callers" "goal" "[I", .fieldLink RX4 141 "GoalLifts$Callers" "phase" "[I", .fieldLink RX4 144 "GoalLifts$Callers" "given" "[I", .fieldLink RX4 147 "GoalLifts$Callers" "calledAt" "[I", .fieldLink RX4 150 "GoalLifts$Callers" "rodeAt" "[I", .fieldLink RX4 153 "GoalLifts$Callers" "thereAt" "[I", .fieldLink RX4 156 "GoalLifts$Callers" "timesGiven" "[I", .methodLink RX4 136 yX0_has, .instanceMethod yX0_has, .selects RX0 yX0_has yX0_has, .initialized RX0, .code yX0_has cX0_has 2 (some .boolean), .fieldLink RX0 36 "GoalLifts$Callers" "count" "I"] ++ wsX40 ++ wsX30 ++ wsX00)
def wsX4_group_r1 : List Cond := [Cond.fieldLink RX4 10 "GoalLifts" "house" "LGoalLifts$House;", Cond.fieldLink RX4 58 "GoalLifts$House" "callers" "LGoalLifts$Callers;", Cond.fieldLink RX4 137 "GoalLifts$Callers" "floor" "[I", Cond.fieldLink RX4 138 "GoalLifts$Callers" "goal" "[I", Cond.methodLink RX4 159 yX0_firstOfGroup, Cond.instanceMethod yX0_firstOfGroup, Cond.selects RX0 yX0_firstOfGroup yX0_firstOfGroup, Cond.initialized RX0, Cond.code yX0_firstOfGroup cX0_firstOfGroup 4 (some .int), Cond.fieldLink RX0 36 "GoalLifts$Callers" "count" "I", Cond.methodLink RX0 77 yX0_isFirstOfGroup, Cond.instanceMethod yX0_isFirstOfGroup, Cond.selects RX0 yX0_isFirstOfGroup yX0_isFirstOfGroup, Cond.code yX0_isFirstOfGroup cX0_isFirstOfGroup 3 (some .boolean), Cond.methodLink RX0 74 yX0_sameGroup, Cond.instanceMethod yX0_sameGroup, Cond.selects RX0 yX0_sameGroup yX0_sameGroup, Cond.code yX0_sameGroup cX0_sameGroup 3 (some .boolean), Cond.fieldLink RX0 9 "GoalLifts$Callers" "floor" "[I", Cond.fieldLink RX0 15 "GoalLifts$Callers" "goal" "[I", Cond.methodLink RX0 71 yX0_isInGroup, Cond.instanceMethod yX0_isInGroup, Cond.selects RX0 yX0_isInGroup yX0_isInGroup, Cond.code yX0_isInGroup cX0_isInGroup 2 (some .boolean)]
def wsX4_group_r2 : List Cond := [Cond.fieldLink RX0 18 "GoalLifts$Callers" "phase" "[I", Cond.methodLink RX4 136 yX0_has, Cond.instanceMethod yX0_has, Cond.selects RX0 yX0_has yX0_has, Cond.code yX0_has cX0_has 2 (some .boolean), Cond.methodLink RX4 162 yX0_sizeOfGroup, Cond.instanceMethod yX0_sizeOfGroup, Cond.selects RX0 yX0_sizeOfGroup yX0_sizeOfGroup, Cond.code yX0_sizeOfGroup cX0_sizeOfGroup 4 (some .int)]
def wsX4_group : List Cond := .code yX4_group cX4_group 4 (some .int) :: ((wsX4_group_r1 ++ wsX4_group_r2) ++ wsX40 ++ wsX30 ++ wsX00)
def wsJ9_abs_0f7a4 : List Cond := .code yJ9_abs_0f7a4 cJ9_abs_0f7a4 1 (some .int) :: ([])
def wsJ9_min_7cf53 : List Cond := .code yJ9_min_7cf53 cJ9_min_7cf53 2 (some .int) :: ([])
def wsL_cell : List Cond := .code yL_cell cL_cell 2 (some .int) :: ([.constant RL 7 (40503)])
def wsL_low : List Cond := .code yL_low cL_low 2 (some .int) :: ([.constant RL 8 (2147483647)])
def wsL_is : List Cond := .code yL_is cL_is 2 (some .int) :: ([.constantLong RL 9 (3)])
def wsL_by : List Cond := .code yL_by cL_by 2 (some .int) :: ([.constantLong RL 11 (7)])
def wsL_floor : List Cond := .code yL_floor cL_floor 2 (some .int) :: ([.constantLong RL 13 (15)])
def wsL_goal : List Cond := .code yL_goal cL_goal 2 (some .int) :: ([.constantLong RL 13 (15)])
def wsL_far : List Cond := .code yL_far cL_far 2 (some .int) :: ([])
def wsL_those : List Cond := .code yL_those cL_those 6 (some .int) :: ([.methodLink RL 15 yL_is, .static yL_is, .initialized RL, .code yL_is cL_is 2 (some .int), .constantLong RL 9 (3), .methodLink RL 21 yL_by, .static yL_by, .code yL_by cL_by 2 (some .int), .constantLong RL 11 (7)])
def wsL_stops : List Cond := .code yL_stops cL_stops 8 (some .int) :: ([.methodLink RL 21 yL_by, .static yL_by, .initialized RL, .code yL_by cL_by 2 (some .int), .constantLong RL 11 (7), .methodLink RL 15 yL_is, .static yL_is, .code yL_is cL_is 2 (some .int), .constantLong RL 9 (3), .methodLink RL 24 yL_goal, .static yL_goal, .code yL_goal cL_goal 2 (some .int), .constantLong RL 13 (15), .methodLink RL 27 yL_floor, .static yL_floor, .code yL_floor cL_floor 2 (some .int)])
def wsL_cost_r1 : List Cond := [Cond.methodLink RL 30 yL_far, Cond.static yL_far, Cond.initialized RL, Cond.code yL_far cL_far 2 (some .int), Cond.methodLink RL 34 yL_stops, Cond.static yL_stops, Cond.code yL_stops cL_stops 8 (some .int), Cond.methodLink RL 21 yL_by, Cond.static yL_by, Cond.code yL_by cL_by 2 (some .int), Cond.constantLong RL 11 (7), Cond.methodLink RL 15 yL_is, Cond.static yL_is, Cond.code yL_is cL_is 2 (some .int), Cond.constantLong RL 9 (3), Cond.methodLink RL 24 yL_goal, Cond.static yL_goal, Cond.code yL_goal cL_goal 2 (some .int), Cond.constantLong RL 13 (15), Cond.methodLink RL 27 yL_floor, Cond.static yL_floor, Cond.code yL_floor cL_floor 2 (some .int), Cond.methodLink RL 38 yL_those, Cond.static yL_those]
def wsL_cost_r2 : List Cond := [Cond.code yL_those cL_those 6 (some .int)]
def wsL_cost : List Cond := .code yL_cost cL_cost 10 (some .int) :: ((wsL_cost_r1 ++ wsL_cost_r2))
def wsL_which_r1 : List Cond := [Cond.methodLink RL 41 yL_cost, Cond.static yL_cost, Cond.initialized RL, Cond.code yL_cost cL_cost 10 (some .int), Cond.methodLink RL 30 yL_far, Cond.static yL_far, Cond.code yL_far cL_far 2 (some .int), Cond.methodLink RL 34 yL_stops, Cond.static yL_stops, Cond.code yL_stops cL_stops 8 (some .int), Cond.methodLink RL 21 yL_by, Cond.static yL_by, Cond.code yL_by cL_by 2 (some .int), Cond.constantLong RL 11 (7), Cond.methodLink RL 15 yL_is, Cond.static yL_is, Cond.code yL_is cL_is 2 (some .int), Cond.constantLong RL 9 (3), Cond.methodLink RL 24 yL_goal, Cond.static yL_goal, Cond.code yL_goal cL_goal 2 (some .int), Cond.constantLong RL 13 (15), Cond.methodLink RL 27 yL_floor, Cond.static yL_floor]
def wsL_which_r2 : List Cond := [Cond.code yL_floor cL_floor 2 (some .int), Cond.methodLink RL 38 yL_those, Cond.static yL_those, Cond.code yL_those cL_those 6 (some .int)]
def wsL_which : List Cond := .code yL_which cL_which 10 (some .int) :: ((wsL_which_r1 ++ wsL_which_r2))
def wsL_gives_r1 : List Cond := [Cond.constantLong RL 49 (256), Cond.constantLong RL 51 (8192), Cond.methodLink RL 27 yL_floor, Cond.static yL_floor, Cond.initialized RL, Cond.code yL_floor cL_floor 2 (some .int), Cond.constantLong RL 13 (15), Cond.methodLink RL 24 yL_goal, Cond.static yL_goal, Cond.code yL_goal cL_goal 2 (some .int), Cond.methodLink RL 45 yL_which, Cond.static yL_which, Cond.code yL_which cL_which 10 (some .int), Cond.methodLink RL 41 yL_cost, Cond.static yL_cost, Cond.code yL_cost cL_cost 10 (some .int), Cond.methodLink RL 30 yL_far, Cond.static yL_far, Cond.code yL_far cL_far 2 (some .int), Cond.methodLink RL 34 yL_stops, Cond.static yL_stops, Cond.code yL_stops cL_stops 8 (some .int), Cond.methodLink RL 21 yL_by, Cond.static yL_by]
def wsL_gives_r2 : List Cond := [Cond.code yL_by cL_by 2 (some .int), Cond.constantLong RL 11 (7), Cond.methodLink RL 15 yL_is, Cond.static yL_is, Cond.code yL_is cL_is 2 (some .int), Cond.constantLong RL 9 (3), Cond.methodLink RL 38 yL_those, Cond.static yL_those, Cond.code yL_those cL_those 6 (some .int)]
def wsL_gives : List Cond := .code yL_gives cL_gives 6 none :: ((wsL_gives_r1 ++ wsL_gives_r2))
def wsL_aim : List Cond := .code yL_aim cL_aim 9 (some .int) :: ([.methodLink RL 15 yL_is, .static yL_is, .initialized RL, .code yL_is cL_is 2 (some .int), .constantLong RL 9 (3), .methodLink RL 21 yL_by, .static yL_by, .code yL_by cL_by 2 (some .int), .constantLong RL 11 (7), .methodLink RL 24 yL_goal, .static yL_goal, .code yL_goal cL_goal 2 (some .int), .constantLong RL 13 (15), .methodLink RL 27 yL_floor, .static yL_floor, .code yL_floor cL_floor 2 (some .int)])
def wsL_goes : List Cond := .code yL_goes cL_goes 11 none :: ([.constantLong RL 49 (256), .methodLink RL 53 yL_aim, .static yL_aim, .initialized RL, .code yL_aim cL_aim 9 (some .int), .methodLink RL 15 yL_is, .static yL_is, .code yL_is cL_is 2 (some .int), .constantLong RL 9 (3), .methodLink RL 21 yL_by, .static yL_by, .code yL_by cL_by 2 (some .int), .constantLong RL 11 (7), .methodLink RL 24 yL_goal, .static yL_goal, .code yL_goal cL_goal 2 (some .int), .constantLong RL 13 (15), .methodLink RL 27 yL_floor, .static yL_floor, .code yL_floor cL_floor 2 (some .int), .methodLink RL 38 yL_those, .static yL_those, .code yL_those cL_those 6 (some .int)])
def wsL_tick_r1 : List Cond := [Cond.methodLink RL 15 yL_is, Cond.static yL_is, Cond.initialized RL, Cond.code yL_is cL_is 2 (some .int), Cond.constantLong RL 9 (3), Cond.methodLink RL 57 yL_gives, Cond.static yL_gives, Cond.code yL_gives cL_gives 6 none, Cond.constantLong RL 49 (256), Cond.constantLong RL 51 (8192), Cond.methodLink RL 27 yL_floor, Cond.static yL_floor, Cond.code yL_floor cL_floor 2 (some .int), Cond.constantLong RL 13 (15), Cond.methodLink RL 24 yL_goal, Cond.static yL_goal, Cond.code yL_goal cL_goal 2 (some .int), Cond.methodLink RL 45 yL_which, Cond.static yL_which, Cond.code yL_which cL_which 10 (some .int), Cond.methodLink RL 41 yL_cost, Cond.static yL_cost, Cond.code yL_cost cL_cost 10 (some .int), Cond.methodLink RL 30 yL_far]
def wsL_tick_r2 : List Cond := [Cond.static yL_far, Cond.code yL_far cL_far 2 (some .int), Cond.methodLink RL 34 yL_stops, Cond.static yL_stops, Cond.code yL_stops cL_stops 8 (some .int), Cond.methodLink RL 21 yL_by, Cond.static yL_by, Cond.code yL_by cL_by 2 (some .int), Cond.constantLong RL 11 (7), Cond.methodLink RL 38 yL_those, Cond.static yL_those, Cond.code yL_those cL_those 6 (some .int), Cond.methodLink RL 61 yL_goes, Cond.static yL_goes, Cond.code yL_goes cL_goes 11 none, Cond.methodLink RL 53 yL_aim, Cond.static yL_aim, Cond.code yL_aim cL_aim 9 (some .int)]
def wsL_tick : List Cond := .code yL_tick cL_tick 6 none :: ((wsL_tick_r1 ++ wsL_tick_r2))
def wsL_fails : List Cond := .code yL_fails cL_fails 10 none :: ([.constantLong RL 49 (256), .constantLong RL 65 (-16), .constantLong RL 67 (-512), .methodLink RL 21 yL_by, .static yL_by, .initialized RL, .code yL_by cL_by 2 (some .int), .constantLong RL 11 (7), .methodLink RL 15 yL_is, .static yL_is, .code yL_is cL_is 2 (some .int), .constantLong RL 9 (3), .methodLink RL 24 yL_goal, .static yL_goal, .code yL_goal cL_goal 2 (some .int), .constantLong RL 13 (15)])
def wsL_cars_r1 : List Cond := [Cond.methodLink RL 69 yX4_addCar, Cond.instanceMethod yX4_addCar, Cond.selects RX4 yX4_addCar yX4_addCar, Cond.initialized RX4, Cond.code yX4_addCar cX4_addCar 4 (some .int), Cond.fieldLink RX4 10 "GoalLifts" "house" "LGoalLifts$House;", Cond.fieldLink RX4 30 "GoalLifts$House" "cars" "LGoalLifts$Cars;", Cond.fieldLink RX4 34 "GoalLifts$Cars" "count" "I", Cond.fieldLink RX4 22 "GoalLifts" "history" "LGoalLifts$History;", Cond.methodLink RX4 26 yX4_isFloor, Cond.static yX4_isFloor, Cond.code yX4_isFloor cX4_isFloor 1 (some .boolean), Cond.methodLink RX4 40 yX2_keep, Cond.instanceMethod yX2_keep, Cond.selects RX2 yX2_keep yX2_keep, Cond.initialized RX2, Cond.code yX2_keep cX2_keep 3 none, Cond.fieldLink RX2 11 "GoalLifts$History" "states" "[LGoalLifts$House;", Cond.fieldLink RX2 18 "GoalLifts$History" "next" "I", Cond.fieldLink RX2 32 "GoalLifts$History" "count" "I", Cond.methodLink RX2 35 Lib.Math.min.name, Cond.static Lib.Math.min.name, Cond.initialized "java/lang/Math", Cond.code Lib.Math.min.name Lib.Math.min.code 2 (some .int)]
def wsL_cars_r2 : List Cond := [Cond.methodLink RX2 22 yX3_copyFrom, Cond.instanceMethod yX3_copyFrom, Cond.selects RX3 yX3_copyFrom yX3_copyFrom, Cond.initialized RX3, Cond.code yX3_copyFrom cX3_copyFrom 2 none, Cond.fieldLink RX3 29 "GoalLifts$House" "tick" "I", Cond.fieldLink RX3 9 "GoalLifts$House" "awake" "[I", Cond.methodLink RX3 33 arraycopyName, Cond.native arraycopyName, Cond.static arraycopyName, Cond.initialized "java/lang/System", Cond.fieldLink RX3 18 "GoalLifts$House" "cars" "LGoalLifts$Cars;", Cond.fieldLink RX3 25 "GoalLifts$House" "callers" "LGoalLifts$Callers;", Cond.methodLink RX3 39 yX1_copyFrom, Cond.instanceMethod yX1_copyFrom, Cond.selects RX1 yX1_copyFrom yX1_copyFrom, Cond.initialized RX1, Cond.code yX1_copyFrom cX1_copyFrom 2 none, Cond.fieldLink RX1 30 "GoalLifts$Cars" "count" "I", Cond.fieldLink RX1 34 "GoalLifts$Cars" "stopsMade" "I", Cond.fieldLink RX1 9 "GoalLifts$Cars" "lowest" "[I", Cond.methodLink RX1 37 arraycopyName, Cond.fieldLink RX1 15 "GoalLifts$Cars" "highest" "[I", Cond.fieldLink RX1 18 "GoalLifts$Cars" "places" "[I"]
def wsL_cars_r3 : List Cond := [Cond.fieldLink RX1 21 "GoalLifts$Cars" "floor" "[I", Cond.fieldLink RX1 24 "GoalLifts$Cars" "state" "[I", Cond.fieldLink RX1 27 "GoalLifts$Cars" "travelled" "[I", Cond.methodLink RX3 43 yX0_copyFrom, Cond.instanceMethod yX0_copyFrom, Cond.selects RX0 yX0_copyFrom yX0_copyFrom, Cond.initialized RX0, Cond.code yX0_copyFrom cX0_copyFrom 2 none, Cond.fieldLink RX0 36 "GoalLifts$Callers" "count" "I", Cond.fieldLink RX0 9 "GoalLifts$Callers" "floor" "[I", Cond.methodLink RX0 40 arraycopyName, Cond.fieldLink RX0 15 "GoalLifts$Callers" "goal" "[I", Cond.fieldLink RX0 18 "GoalLifts$Callers" "phase" "[I", Cond.fieldLink RX0 21 "GoalLifts$Callers" "given" "[I", Cond.fieldLink RX0 24 "GoalLifts$Callers" "calledAt" "[I", Cond.fieldLink RX0 27 "GoalLifts$Callers" "rodeAt" "[I", Cond.fieldLink RX0 30 "GoalLifts$Callers" "thereAt" "[I", Cond.fieldLink RX0 33 "GoalLifts$Callers" "timesGiven" "[I", Cond.methodLink RX2 26 yJ9_floorMod_7cf53, Cond.static yJ9_floorMod_7cf53, Cond.initialized RJ9, Cond.code yJ9_floorMod_7cf53 cJ9_floorMod_7cf53 3 (some .int), Cond.methodLink RX4 44 yX1_add, Cond.instanceMethod yX1_add]
def wsL_cars_r4 : List Cond := [Cond.selects RX1 yX1_add yX1_add, Cond.code yX1_add cX1_add 5 (some .int), Cond.methodLink RL 75 yX4_setAwake, Cond.instanceMethod yX4_setAwake, Cond.selects RX4 yX4_setAwake yX4_setAwake, Cond.code yX4_setAwake cX4_setAwake 4 (some .int), Cond.fieldLink RX4 48 "GoalLifts$House" "awake" "[I", Cond.methodLink RL 78 yX4_hold, Cond.instanceMethod yX4_hold, Cond.selects RX4 yX4_hold yX4_hold, Cond.code yX4_hold cX4_hold 5 (some .int), Cond.fieldLink RX4 55 "GoalLifts$Cars" "state" "[I", Cond.fieldLink RX4 58 "GoalLifts$House" "callers" "LGoalLifts$Callers;", Cond.methodLink RX4 52 yX1_has, Cond.instanceMethod yX1_has, Cond.selects RX1 yX1_has yX1_has, Cond.code yX1_has cX1_has 2 (some .boolean), Cond.methodLink RX4 62 yX0_numberWith, Cond.instanceMethod yX0_numberWith, Cond.selects RX0 yX0_numberWith yX0_numberWith, Cond.code yX0_numberWith cX0_numberWith 2 (some .int), Cond.methodLink RX0 50 yX0_numberOf, Cond.instanceMethod yX0_numberOf, Cond.selects RX0 yX0_numberOf yX0_numberOf]
def wsL_cars_r5 : List Cond := [Cond.code yX0_numberOf cX0_numberOf 5 (some .int), Cond.methodLink RL 81 yX4_fail, Cond.instanceMethod yX4_fail, Cond.selects RX4 yX4_fail yX4_fail, Cond.code yX4_fail cX4_fail 2 (some .int), Cond.methodLink RX4 68 yX3_breakCar, Cond.instanceMethod yX3_breakCar, Cond.selects RX3 yX3_breakCar yX3_breakCar, Cond.code yX3_breakCar cX3_breakCar 2 none, Cond.fieldLink RX3 50 "GoalLifts$Cars" "state" "[I", Cond.fieldLink RX3 61 "GoalLifts$Cars" "floor" "[I", Cond.methodLink RX3 131 yX0_loseCar, Cond.instanceMethod yX0_loseCar, Cond.selects RX0 yX0_loseCar yX0_loseCar, Cond.code yX0_loseCar cX0_loseCar 6 none, Cond.methodLink RX0 58 yX0_rides, Cond.instanceMethod yX0_rides, Cond.selects RX0 yX0_rides yX0_rides, Cond.code yX0_rides cX0_rides 3 (some .boolean), Cond.methodLink RX0 54 yX0_waitsFor, Cond.instanceMethod yX0_waitsFor, Cond.selects RX0 yX0_waitsFor yX0_waitsFor, Cond.code yX0_waitsFor cX0_waitsFor 3 (some .boolean), Cond.methodLink RX4 72 yX0_numberIn]
def wsL_cars_r6 : List Cond := [Cond.instanceMethod yX0_numberIn, Cond.selects RX0 yX0_numberIn yX0_numberIn, Cond.code yX0_numberIn cX0_numberIn 4 (some .int), Cond.methodLink RL 85 yX4_repair, Cond.instanceMethod yX4_repair, Cond.selects RX4 yX4_repair yX4_repair, Cond.code yX4_repair cX4_repair 2 (some .int), Cond.fieldLink RX4 75 "GoalLifts$Cars" "floor" "[I", Cond.methodLink RL 38 yL_those, Cond.static yL_those, Cond.initialized RL, Cond.code yL_those cL_those 6 (some .int), Cond.methodLink RL 15 yL_is, Cond.static yL_is, Cond.code yL_is cL_is 2 (some .int), Cond.constantLong RL 9 (3), Cond.methodLink RL 21 yL_by, Cond.static yL_by, Cond.code yL_by cL_by 2 (some .int), Cond.constantLong RL 11 (7), Cond.methodLink RL 88 yL_fails, Cond.static yL_fails, Cond.code yL_fails cL_fails 10 none, Cond.constantLong RL 49 (256)]
def wsL_cars_r7 : List Cond := [Cond.constantLong RL 65 (-16), Cond.constantLong RL 67 (-512), Cond.methodLink RL 24 yL_goal, Cond.static yL_goal, Cond.code yL_goal cL_goal 2 (some .int), Cond.constantLong RL 13 (15)]
def wsL_cars : List Cond := .code yL_cars cL_cars 12 (some .boolean) :: ((wsL_cars_r1 ++ (wsL_cars_r2 ++ (wsL_cars_r3 ++ (wsL_cars_r4 ++ (wsL_cars_r5 ++ (wsL_cars_r6 ++ wsL_cars_r7)))))) ++ wsX40 ++ wsX30 ++ wsX10 ++ wsX20 ++ wsX00)
def wsL_acts_r1 : List Cond := [Cond.constant RL 91 (10000000), Cond.methodLink RL 92 yL_low, Cond.static yL_low, Cond.initialized RL, Cond.code yL_low cL_low 2 (some .int), Cond.constant RL 8 (2147483647), Cond.methodLink RL 95 yL_cars, Cond.static yL_cars, Cond.code yL_cars cL_cars 12 (some .boolean), Cond.methodLink RL 69 yX4_addCar, Cond.instanceMethod yX4_addCar, Cond.selects RX4 yX4_addCar yX4_addCar, Cond.initialized RX4, Cond.code yX4_addCar cX4_addCar 4 (some .int), Cond.fieldLink RX4 10 "GoalLifts" "house" "LGoalLifts$House;", Cond.fieldLink RX4 30 "GoalLifts$House" "cars" "LGoalLifts$Cars;", Cond.fieldLink RX4 34 "GoalLifts$Cars" "count" "I", Cond.fieldLink RX4 22 "GoalLifts" "history" "LGoalLifts$History;", Cond.methodLink RX4 26 yX4_isFloor, Cond.static yX4_isFloor, Cond.code yX4_isFloor cX4_isFloor 1 (some .boolean), Cond.methodLink RX4 40 yX2_keep, Cond.instanceMethod yX2_keep, Cond.selects RX2 yX2_keep yX2_keep]
def wsL_acts_r2 : List Cond := [Cond.initialized RX2, Cond.code yX2_keep cX2_keep 3 none, Cond.fieldLink RX2 11 "GoalLifts$History" "states" "[LGoalLifts$House;", Cond.fieldLink RX2 18 "GoalLifts$History" "next" "I", Cond.fieldLink RX2 32 "GoalLifts$History" "count" "I", Cond.methodLink RX2 35 Lib.Math.min.name, Cond.static Lib.Math.min.name, Cond.initialized "java/lang/Math", Cond.code Lib.Math.min.name Lib.Math.min.code 2 (some .int), Cond.methodLink RX2 22 yX3_copyFrom, Cond.instanceMethod yX3_copyFrom, Cond.selects RX3 yX3_copyFrom yX3_copyFrom, Cond.initialized RX3, Cond.code yX3_copyFrom cX3_copyFrom 2 none, Cond.fieldLink RX3 29 "GoalLifts$House" "tick" "I", Cond.fieldLink RX3 9 "GoalLifts$House" "awake" "[I", Cond.methodLink RX3 33 arraycopyName, Cond.native arraycopyName, Cond.static arraycopyName, Cond.initialized "java/lang/System", Cond.fieldLink RX3 18 "GoalLifts$House" "cars" "LGoalLifts$Cars;", Cond.fieldLink RX3 25 "GoalLifts$House" "callers" "LGoalLifts$Callers;", Cond.methodLink RX3 39 yX1_copyFrom, Cond.instanceMethod yX1_copyFrom]
def wsL_acts_r3 : List Cond := [Cond.selects RX1 yX1_copyFrom yX1_copyFrom, Cond.initialized RX1, Cond.code yX1_copyFrom cX1_copyFrom 2 none, Cond.fieldLink RX1 30 "GoalLifts$Cars" "count" "I", Cond.fieldLink RX1 34 "GoalLifts$Cars" "stopsMade" "I", Cond.fieldLink RX1 9 "GoalLifts$Cars" "lowest" "[I", Cond.methodLink RX1 37 arraycopyName, Cond.fieldLink RX1 15 "GoalLifts$Cars" "highest" "[I", Cond.fieldLink RX1 18 "GoalLifts$Cars" "places" "[I", Cond.fieldLink RX1 21 "GoalLifts$Cars" "floor" "[I", Cond.fieldLink RX1 24 "GoalLifts$Cars" "state" "[I", Cond.fieldLink RX1 27 "GoalLifts$Cars" "travelled" "[I", Cond.methodLink RX3 43 yX0_copyFrom, Cond.instanceMethod yX0_copyFrom, Cond.selects RX0 yX0_copyFrom yX0_copyFrom, Cond.initialized RX0, Cond.code yX0_copyFrom cX0_copyFrom 2 none, Cond.fieldLink RX0 36 "GoalLifts$Callers" "count" "I", Cond.fieldLink RX0 9 "GoalLifts$Callers" "floor" "[I", Cond.methodLink RX0 40 arraycopyName, Cond.fieldLink RX0 15 "GoalLifts$Callers" "goal" "[I", Cond.fieldLink RX0 18 "GoalLifts$Callers" "phase" "[I", Cond.fieldLink RX0 21 "GoalLifts$Callers" "given" "[I", Cond.fieldLink RX0 24 "GoalLifts$Callers" "calledAt" "[I"]
def wsL_acts_r4 : List Cond := [Cond.fieldLink RX0 27 "GoalLifts$Callers" "rodeAt" "[I", Cond.fieldLink RX0 30 "GoalLifts$Callers" "thereAt" "[I", Cond.fieldLink RX0 33 "GoalLifts$Callers" "timesGiven" "[I", Cond.methodLink RX2 26 yJ9_floorMod_7cf53, Cond.static yJ9_floorMod_7cf53, Cond.initialized RJ9, Cond.code yJ9_floorMod_7cf53 cJ9_floorMod_7cf53 3 (some .int), Cond.methodLink RX4 44 yX1_add, Cond.instanceMethod yX1_add, Cond.selects RX1 yX1_add yX1_add, Cond.code yX1_add cX1_add 5 (some .int), Cond.methodLink RL 75 yX4_setAwake, Cond.instanceMethod yX4_setAwake, Cond.selects RX4 yX4_setAwake yX4_setAwake, Cond.code yX4_setAwake cX4_setAwake 4 (some .int), Cond.fieldLink RX4 48 "GoalLifts$House" "awake" "[I", Cond.methodLink RL 78 yX4_hold, Cond.instanceMethod yX4_hold, Cond.selects RX4 yX4_hold yX4_hold, Cond.code yX4_hold cX4_hold 5 (some .int), Cond.fieldLink RX4 55 "GoalLifts$Cars" "state" "[I", Cond.fieldLink RX4 58 "GoalLifts$House" "callers" "LGoalLifts$Callers;", Cond.methodLink RX4 52 yX1_has, Cond.instanceMethod yX1_has]
def wsL_acts_r5 : List Cond := [Cond.selects RX1 yX1_has yX1_has, Cond.code yX1_has cX1_has 2 (some .boolean), Cond.methodLink RX4 62 yX0_numberWith, Cond.instanceMethod yX0_numberWith, Cond.selects RX0 yX0_numberWith yX0_numberWith, Cond.code yX0_numberWith cX0_numberWith 2 (some .int), Cond.methodLink RX0 50 yX0_numberOf, Cond.instanceMethod yX0_numberOf, Cond.selects RX0 yX0_numberOf yX0_numberOf, Cond.code yX0_numberOf cX0_numberOf 5 (some .int), Cond.methodLink RL 81 yX4_fail, Cond.instanceMethod yX4_fail, Cond.selects RX4 yX4_fail yX4_fail, Cond.code yX4_fail cX4_fail 2 (some .int), Cond.methodLink RX4 68 yX3_breakCar, Cond.instanceMethod yX3_breakCar, Cond.selects RX3 yX3_breakCar yX3_breakCar, Cond.code yX3_breakCar cX3_breakCar 2 none, Cond.fieldLink RX3 50 "GoalLifts$Cars" "state" "[I", Cond.fieldLink RX3 61 "GoalLifts$Cars" "floor" "[I", Cond.methodLink RX3 131 yX0_loseCar, Cond.instanceMethod yX0_loseCar, Cond.selects RX0 yX0_loseCar yX0_loseCar, Cond.code yX0_loseCar cX0_loseCar 6 none]
def wsL_acts_r6 : List Cond := [Cond.methodLink RX0 58 yX0_rides, Cond.instanceMethod yX0_rides, Cond.selects RX0 yX0_rides yX0_rides, Cond.code yX0_rides cX0_rides 3 (some .boolean), Cond.methodLink RX0 54 yX0_waitsFor, Cond.instanceMethod yX0_waitsFor, Cond.selects RX0 yX0_waitsFor yX0_waitsFor, Cond.code yX0_waitsFor cX0_waitsFor 3 (some .boolean), Cond.methodLink RX4 72 yX0_numberIn, Cond.instanceMethod yX0_numberIn, Cond.selects RX0 yX0_numberIn yX0_numberIn, Cond.code yX0_numberIn cX0_numberIn 4 (some .int), Cond.methodLink RL 85 yX4_repair, Cond.instanceMethod yX4_repair, Cond.selects RX4 yX4_repair yX4_repair, Cond.code yX4_repair cX4_repair 2 (some .int), Cond.fieldLink RX4 75 "GoalLifts$Cars" "floor" "[I", Cond.methodLink RL 38 yL_those, Cond.static yL_those, Cond.code yL_those cL_those 6 (some .int), Cond.methodLink RL 15 yL_is, Cond.static yL_is, Cond.code yL_is cL_is 2 (some .int), Cond.constantLong RL 9 (3)]
def wsL_acts_r7 : List Cond := [Cond.methodLink RL 21 yL_by, Cond.static yL_by, Cond.code yL_by cL_by 2 (some .int), Cond.constantLong RL 11 (7), Cond.methodLink RL 88 yL_fails, Cond.static yL_fails, Cond.code yL_fails cL_fails 10 none, Cond.constantLong RL 49 (256), Cond.constantLong RL 65 (-16), Cond.constantLong RL 67 (-512), Cond.methodLink RL 24 yL_goal, Cond.static yL_goal, Cond.code yL_goal cL_goal 2 (some .int), Cond.constantLong RL 13 (15), Cond.methodLink RL 99 yX4_call, Cond.instanceMethod yX4_call, Cond.selects RX4 yX4_call yX4_call, Cond.code yX4_call cX4_call 5 (some .int), Cond.fieldLink RX4 82 "GoalLifts$Callers" "count" "I", Cond.fieldLink RX4 87 "GoalLifts$House" "tick" "I", Cond.methodLink RX4 78 yX4_isWay, Cond.static yX4_isWay, Cond.code yX4_isWay cX4_isWay 2 (some .boolean), Cond.methodLink RX4 83 yX3_bestCar]
def wsL_acts_r8 : List Cond := [Cond.instanceMethod yX3_bestCar, Cond.selects RX3 yX3_bestCar yX3_bestCar, Cond.code yX3_bestCar cX3_bestCar 7 (some .int), Cond.fieldLink RX3 81 "GoalLifts$Cars" "count" "I", Cond.methodLink RX3 84 yX3_canBeGiven, Cond.instanceMethod yX3_canBeGiven, Cond.selects RX3 yX3_canBeGiven yX3_canBeGiven, Cond.code yX3_canBeGiven cX3_canBeGiven 4 (some .boolean), Cond.methodLink RX3 53 yX3_isAwake, Cond.instanceMethod yX3_isAwake, Cond.selects RX3 yX3_isAwake yX3_isAwake, Cond.code yX3_isAwake cX3_isAwake 2 (some .boolean), Cond.methodLink RX3 46 yX3_hour, Cond.instanceMethod yX3_hour, Cond.selects RX3 yX3_hour yX3_hour, Cond.code yX3_hour cX3_hour 1 (some .int), Cond.methodLink RX3 57 yX1_serves, Cond.instanceMethod yX1_serves, Cond.selects RX1 yX1_serves yX1_serves, Cond.code yX1_serves cX1_serves 3 (some .boolean), Cond.methodLink RX3 88 yX3_costOf, Cond.instanceMethod yX3_costOf, Cond.selects RX3 yX3_costOf yX3_costOf, Cond.code yX3_costOf cX3_costOf 6 (some .int)]
def wsL_acts_r9 : List Cond := [Cond.methodLink RX3 64 Lib.Math.abs.name, Cond.static Lib.Math.abs.name, Cond.code Lib.Math.abs.name Lib.Math.abs.code 1 (some .int), Cond.methodLink RX3 70 yX0_stopsOf, Cond.instanceMethod yX0_stopsOf, Cond.selects RX0 yX0_stopsOf yX0_stopsOf, Cond.code yX0_stopsOf cX0_stopsOf 4 (some .int), Cond.methodLink RX3 73 yJ6_bitCount_0f7a4, Cond.static yJ6_bitCount_0f7a4, Cond.initialized RJ6, Cond.code yJ6_bitCount_0f7a4 cJ6_bitCount_0f7a4 1 (some .int), Cond.constant RJ6 265 (1431655765), Cond.constant RJ6 266 (858993459), Cond.constant RJ6 267 (252645135), Cond.methodLink RX3 78 yX0_numberWith, Cond.methodLink RX4 90 yX0_add, Cond.instanceMethod yX0_add, Cond.selects RX0 yX0_add yX0_add, Cond.code yX0_add cX0_add 5 (some .int), Cond.methodLink RX4 91 yX0_give, Cond.instanceMethod yX0_give, Cond.selects RX0 yX0_give yX0_give, Cond.code yX0_give cX0_give 3 none, Cond.methodLink RX0 46 yX0_has]
def wsL_acts_r10 : List Cond := [Cond.instanceMethod yX0_has, Cond.selects RX0 yX0_has yX0_has, Cond.code yX0_has cX0_has 2 (some .boolean), Cond.methodLink RL 57 yL_gives, Cond.static yL_gives, Cond.code yL_gives cL_gives 6 none, Cond.constantLong RL 51 (8192), Cond.methodLink RL 27 yL_floor, Cond.static yL_floor, Cond.code yL_floor cL_floor 2 (some .int), Cond.methodLink RL 45 yL_which, Cond.static yL_which, Cond.code yL_which cL_which 10 (some .int), Cond.methodLink RL 41 yL_cost, Cond.static yL_cost, Cond.code yL_cost cL_cost 10 (some .int), Cond.methodLink RL 30 yL_far, Cond.static yL_far, Cond.code yL_far cL_far 2 (some .int), Cond.methodLink RL 34 yL_stops, Cond.static yL_stops, Cond.code yL_stops cL_stops 8 (some .int), Cond.methodLink RL 102 yL_tick, Cond.static yL_tick]
def wsL_acts_r11 : List Cond := [Cond.code yL_tick cL_tick 6 none, Cond.methodLink RL 61 yL_goes, Cond.static yL_goes, Cond.code yL_goes cL_goes 11 none, Cond.methodLink RL 53 yL_aim, Cond.static yL_aim, Cond.code yL_aim cL_aim 9 (some .int), Cond.methodLink RL 106 yX4_pass, Cond.instanceMethod yX4_pass, Cond.selects RX4 yX4_pass yX4_pass, Cond.code yX4_pass cX4_pass 3 (some .int), Cond.methodLink RX4 95 yX3_oneTick, Cond.instanceMethod yX3_oneTick, Cond.selects RX3 yX3_oneTick yX3_oneTick, Cond.code yX3_oneTick cX3_oneTick 2 none, Cond.fieldLink RX3 92 "GoalLifts$Callers" "count" "I", Cond.fieldLink RX3 93 "GoalLifts$Callers" "phase" "[I", Cond.fieldLink RX3 96 "GoalLifts$Callers" "floor" "[I", Cond.fieldLink RX3 97 "GoalLifts$Callers" "goal" "[I", Cond.methodLink RX3 100 yX3_bestCar, Cond.methodLink RX3 104 yX0_give, Cond.methodLink RX3 108 yX3_stopOrTravel, Cond.instanceMethod yX3_stopOrTravel, Cond.selects RX3 yX3_stopOrTravel yX3_stopOrTravel]
def wsL_acts_r12 : List Cond := [Cond.code yX3_stopOrTravel cX3_stopOrTravel 6 none, Cond.fieldLink RX3 115 "GoalLifts$Cars" "places" "[I", Cond.fieldLink RX3 122 "GoalLifts$Cars" "stopsMade" "I", Cond.methodLink RX3 112 yX0_letOut, Cond.instanceMethod yX0_letOut, Cond.selects RX0 yX0_letOut yX0_letOut, Cond.code yX0_letOut cX0_letOut 6 (some .int), Cond.methodLink RX3 118 yX0_takeIn, Cond.instanceMethod yX0_takeIn, Cond.selects RX0 yX0_takeIn yX0_takeIn, Cond.code yX0_takeIn cX0_takeIn 8 (some .int), Cond.methodLink RX3 125 yX0_aimOf, Cond.instanceMethod yX0_aimOf, Cond.selects RX0 yX0_aimOf yX0_aimOf, Cond.code yX0_aimOf cX0_aimOf 6 (some .int), Cond.methodLink RX0 61 yX0_isNearer, Cond.static yX0_isNearer, Cond.code yX0_isNearer cX0_isNearer 5 (some .boolean), Cond.methodLink RX0 65 Lib.Math.abs.name, Cond.methodLink RX3 128 yX1_travelTowards, Cond.instanceMethod yX1_travelTowards, Cond.selects RX1 yX1_travelTowards yX1_travelTowards, Cond.code yX1_travelTowards cX1_travelTowards 3 none]
def wsL_acts : List Cond := .code yL_acts cL_acts 11 (some .boolean) :: ((wsL_acts_r1 ++ (wsL_acts_r2 ++ (wsL_acts_r3 ++ (wsL_acts_r4 ++ (wsL_acts_r5 ++ (wsL_acts_r6 ++ (wsL_acts_r7 ++ (wsL_acts_r8 ++ (wsL_acts_r9 ++ (wsL_acts_r10 ++ (wsL_acts_r11 ++ wsL_acts_r12))))))))))) ++ wsX40 ++ wsX30 ++ wsX10 ++ wsX20 ++ wsX00)
def wsL_isSo_r1 : List Cond := [Cond.constantLong RL 112 (1048575), Cond.constantLong RL 117 (2047), Cond.methodLink RL 109 yX4_car, Cond.instanceMethod yX4_car, Cond.selects RX4 yX4_car yX4_car, Cond.initialized RX4, Cond.code yX4_car cX4_car 3 (some .int), Cond.fieldLink RX4 10 "GoalLifts" "house" "LGoalLifts$House;", Cond.fieldLink RX4 30 "GoalLifts$House" "cars" "LGoalLifts$Cars;", Cond.fieldLink RX4 75 "GoalLifts$Cars" "floor" "[I", Cond.fieldLink RX4 55 "GoalLifts$Cars" "state" "[I", Cond.fieldLink RX4 58 "GoalLifts$House" "callers" "LGoalLifts$Callers;", Cond.fieldLink RX4 130 "GoalLifts$Cars" "travelled" "[I", Cond.methodLink RX4 52 yX1_has, Cond.instanceMethod yX1_has, Cond.selects RX1 yX1_has yX1_has, Cond.initialized RX1, Cond.code yX1_has cX1_has 2 (some .boolean), Cond.fieldLink RX1 30 "GoalLifts$Cars" "count" "I", Cond.methodLink RX4 116 yX0_numberOf, Cond.instanceMethod yX0_numberOf, Cond.selects RX0 yX0_numberOf yX0_numberOf, Cond.initialized RX0, Cond.code yX0_numberOf cX0_numberOf 5 (some .int)]
def wsL_isSo_r2 : List Cond := [Cond.fieldLink RX0 36 "GoalLifts$Callers" "count" "I", Cond.fieldLink RX0 18 "GoalLifts$Callers" "phase" "[I", Cond.fieldLink RX0 21 "GoalLifts$Callers" "given" "[I", Cond.methodLink RX4 119 yX0_stopsOf, Cond.instanceMethod yX0_stopsOf, Cond.selects RX0 yX0_stopsOf yX0_stopsOf, Cond.code yX0_stopsOf cX0_stopsOf 4 (some .int), Cond.fieldLink RX0 9 "GoalLifts$Callers" "floor" "[I", Cond.fieldLink RX0 15 "GoalLifts$Callers" "goal" "[I", Cond.methodLink RX0 54 yX0_waitsFor, Cond.instanceMethod yX0_waitsFor, Cond.selects RX0 yX0_waitsFor yX0_waitsFor, Cond.code yX0_waitsFor cX0_waitsFor 3 (some .boolean), Cond.methodLink RX0 58 yX0_rides, Cond.instanceMethod yX0_rides, Cond.selects RX0 yX0_rides yX0_rides, Cond.code yX0_rides cX0_rides 3 (some .boolean), Cond.methodLink RX4 122 yJ6_bitCount_0f7a4, Cond.static yJ6_bitCount_0f7a4, Cond.initialized RJ6, Cond.code yJ6_bitCount_0f7a4 cJ6_bitCount_0f7a4 1 (some .int), Cond.constant RJ6 265 (1431655765), Cond.constant RJ6 266 (858993459), Cond.constant RJ6 267 (252645135)]
def wsL_isSo_r3 : List Cond := [Cond.methodLink RX4 127 yX0_aimOf, Cond.instanceMethod yX0_aimOf, Cond.selects RX0 yX0_aimOf yX0_aimOf, Cond.code yX0_aimOf cX0_aimOf 6 (some .int), Cond.methodLink RX0 61 yX0_isNearer, Cond.static yX0_isNearer, Cond.code yX0_isNearer cX0_isNearer 5 (some .boolean), Cond.methodLink RX0 65 Lib.Math.abs.name, Cond.static Lib.Math.abs.name, Cond.initialized "java/lang/Math", Cond.code Lib.Math.abs.name Lib.Math.abs.code 1 (some .int), Cond.methodLink RX4 133 yX3_isAwake, Cond.instanceMethod yX3_isAwake, Cond.selects RX3 yX3_isAwake yX3_isAwake, Cond.initialized RX3, Cond.code yX3_isAwake cX3_isAwake 2 (some .boolean), Cond.fieldLink RX3 9 "GoalLifts$House" "awake" "[I", Cond.methodLink RX3 46 yX3_hour, Cond.instanceMethod yX3_hour, Cond.selects RX3 yX3_hour yX3_hour, Cond.code yX3_hour cX3_hour 1 (some .int), Cond.fieldLink RX3 29 "GoalLifts$House" "tick" "I", Cond.methodLink RL 38 yL_those, Cond.static yL_those]
def wsL_isSo_r4 : List Cond := [Cond.initialized RL, Cond.code yL_those cL_those 6 (some .int), Cond.methodLink RL 15 yL_is, Cond.static yL_is, Cond.code yL_is cL_is 2 (some .int), Cond.constantLong RL 9 (3), Cond.methodLink RL 21 yL_by, Cond.static yL_by, Cond.code yL_by cL_by 2 (some .int), Cond.constantLong RL 11 (7), Cond.methodLink RL 34 yL_stops, Cond.static yL_stops, Cond.code yL_stops cL_stops 8 (some .int), Cond.methodLink RL 24 yL_goal, Cond.static yL_goal, Cond.code yL_goal cL_goal 2 (some .int), Cond.constantLong RL 13 (15), Cond.methodLink RL 27 yL_floor, Cond.static yL_floor, Cond.code yL_floor cL_floor 2 (some .int), Cond.methodLink RL 53 yL_aim, Cond.static yL_aim, Cond.code yL_aim cL_aim 9 (some .int), Cond.methodLink RL 114 yX4_caller]
def wsL_isSo_r5 : List Cond := [Cond.instanceMethod yX4_caller, Cond.selects RX4 yX4_caller yX4_caller, Cond.code yX4_caller cX4_caller 3 (some .int), Cond.fieldLink RX4 137 "GoalLifts$Callers" "floor" "[I", Cond.fieldLink RX4 138 "GoalLifts$Callers" "goal" "[I", Cond.fieldLink RX4 141 "GoalLifts$Callers" "phase" "[I", Cond.fieldLink RX4 144 "GoalLifts$Callers" "given" "[I", Cond.fieldLink RX4 147 "GoalLifts$Callers" "calledAt" "[I", Cond.fieldLink RX4 150 "GoalLifts$Callers" "rodeAt" "[I", Cond.fieldLink RX4 153 "GoalLifts$Callers" "thereAt" "[I", Cond.fieldLink RX4 156 "GoalLifts$Callers" "timesGiven" "[I", Cond.methodLink RX4 136 yX0_has, Cond.instanceMethod yX0_has, Cond.selects RX0 yX0_has yX0_has, Cond.code yX0_has cX0_has 2 (some .boolean), Cond.methodLink RL 119 yX4_group, Cond.instanceMethod yX4_group, Cond.selects RX4 yX4_group yX4_group, Cond.code yX4_group cX4_group 4 (some .int), Cond.methodLink RX4 159 yX0_firstOfGroup, Cond.instanceMethod yX0_firstOfGroup, Cond.selects RX0 yX0_firstOfGroup yX0_firstOfGroup, Cond.code yX0_firstOfGroup cX0_firstOfGroup 4 (some .int), Cond.methodLink RX0 77 yX0_isFirstOfGroup]
def wsL_isSo_r6 : List Cond := [Cond.instanceMethod yX0_isFirstOfGroup, Cond.selects RX0 yX0_isFirstOfGroup yX0_isFirstOfGroup, Cond.code yX0_isFirstOfGroup cX0_isFirstOfGroup 3 (some .boolean), Cond.methodLink RX0 74 yX0_sameGroup, Cond.instanceMethod yX0_sameGroup, Cond.selects RX0 yX0_sameGroup yX0_sameGroup, Cond.code yX0_sameGroup cX0_sameGroup 3 (some .boolean), Cond.methodLink RX0 71 yX0_isInGroup, Cond.instanceMethod yX0_isInGroup, Cond.selects RX0 yX0_isInGroup yX0_isInGroup, Cond.code yX0_isInGroup cX0_isInGroup 2 (some .boolean), Cond.methodLink RX4 162 yX0_sizeOfGroup, Cond.instanceMethod yX0_sizeOfGroup, Cond.selects RX0 yX0_sizeOfGroup yX0_sizeOfGroup, Cond.code yX0_sizeOfGroup cX0_sizeOfGroup 4 (some .int), Cond.methodLink RL 122 yX4_count, Cond.instanceMethod yX4_count, Cond.selects RX4 yX4_count yX4_count, Cond.code yX4_count cX4_count 2 (some .int), Cond.fieldLink RX4 87 "GoalLifts$House" "tick" "I", Cond.fieldLink RX4 34 "GoalLifts$Cars" "count" "I", Cond.fieldLink RX4 82 "GoalLifts$Callers" "count" "I", Cond.fieldLink RX4 112 "GoalLifts$Cars" "stopsMade" "I", Cond.fieldLink RX4 22 "GoalLifts" "history" "LGoalLifts$History;"]
def wsL_isSo_r7 : List Cond := [Cond.fieldLink RX4 98 "GoalLifts$History" "count" "I", Cond.methodLink RX4 102 yX3_hour, Cond.methodLink RX4 72 yX0_numberIn, Cond.instanceMethod yX0_numberIn, Cond.selects RX0 yX0_numberIn yX0_numberIn, Cond.code yX0_numberIn cX0_numberIn 4 (some .int), Cond.methodLink RX4 106 yX0_numberOfGroups, Cond.instanceMethod yX0_numberOfGroups, Cond.selects RX0 yX0_numberOfGroups yX0_numberOfGroups, Cond.code yX0_numberOfGroups cX0_numberOfGroups 3 (some .int), Cond.methodLink RX4 109 yX1_travelledByAll, Cond.instanceMethod yX1_travelledByAll, Cond.selects RX1 yX1_travelledByAll yX1_travelledByAll, Cond.code yX1_travelledByAll cX1_travelledByAll 3 (some .int), Cond.fieldLink RX1 27 "GoalLifts$Cars" "travelled" "[I", Cond.methodLink RX4 115 yX1_numberIn, Cond.instanceMethod yX1_numberIn, Cond.selects RX1 yX1_numberIn yX1_numberIn, Cond.code yX1_numberIn cX1_numberIn 4 (some .int), Cond.fieldLink RX1 24 "GoalLifts$Cars" "state" "[I"]
def wsL_isSo : List Cond := .code yL_isSo cL_isSo 20 (some .boolean) :: ((wsL_isSo_r1 ++ (wsL_isSo_r2 ++ (wsL_isSo_r3 ++ (wsL_isSo_r4 ++ (wsL_isSo_r5 ++ (wsL_isSo_r6 ++ wsL_isSo_r7)))))) ++ wsX40 ++ wsX30 ++ wsX10 ++ wsX00 ++ wsX20)
def wsL_law_r1 : List Cond := [Cond.classLink RL 70 RX4, Cond.instantiable RX4 3, Cond.initialized RX4, Cond.arrayClass .int, Cond.arrayClass .long, Cond.constant RL 8 (2147483647), Cond.methodLink RL 125 yX4_init, Cond.instanceMethod yX4_init, Cond.code yX4_init cX4_init 1 none, Cond.methodLink RX4 1 objectInit, Cond.instanceMethod objectInit, Cond.code objectInit ⟨#[0xb1]⟩ 1 none, Cond.classLink RX4 7 RX3, Cond.instantiable RX3 4, Cond.initialized RX3, Cond.fieldLink RX4 10 "GoalLifts" "house" "LGoalLifts$House;", Cond.fieldLink RX4 16 "GoalLifts" "forecast" "LGoalLifts$House;", Cond.classLink RX4 19 RX2, Cond.instantiable RX2 3, Cond.initialized RX2, Cond.fieldLink RX4 22 "GoalLifts" "history" "LGoalLifts$History;", Cond.methodLink RX4 9 yX3_init, Cond.instanceMethod yX3_init, Cond.code yX3_init cX3_init 2 none]
def wsL_law_r2 : List Cond := [Cond.methodLink RX3 3 objectInit, Cond.fieldLink RX3 9 "GoalLifts$House" "awake" "[I", Cond.classLink RX3 15 RX1, Cond.instantiable RX1 8, Cond.initialized RX1, Cond.fieldLink RX3 18 "GoalLifts$House" "cars" "LGoalLifts$Cars;", Cond.classLink RX3 22 RX0, Cond.instantiable RX0 9, Cond.initialized RX0, Cond.fieldLink RX3 25 "GoalLifts$House" "callers" "LGoalLifts$Callers;", Cond.instanceMethod yX1_init, Cond.code yX1_init cX1_init 1 none, Cond.methodLink RX1 3 objectInit, Cond.fieldLink RX1 9 "GoalLifts$Cars" "lowest" "[I", Cond.fieldLink RX1 15 "GoalLifts$Cars" "highest" "[I", Cond.fieldLink RX1 18 "GoalLifts$Cars" "places" "[I", Cond.fieldLink RX1 21 "GoalLifts$Cars" "floor" "[I", Cond.fieldLink RX1 24 "GoalLifts$Cars" "state" "[I", Cond.fieldLink RX1 27 "GoalLifts$Cars" "travelled" "[I", Cond.instanceMethod yX0_init, Cond.code yX0_init cX0_init 1 none, Cond.methodLink RX0 3 objectInit, Cond.fieldLink RX0 9 "GoalLifts$Callers" "floor" "[I", Cond.fieldLink RX0 15 "GoalLifts$Callers" "goal" "[I"]
def wsL_law_r3 : List Cond := [Cond.fieldLink RX0 18 "GoalLifts$Callers" "phase" "[I", Cond.fieldLink RX0 21 "GoalLifts$Callers" "given" "[I", Cond.fieldLink RX0 24 "GoalLifts$Callers" "calledAt" "[I", Cond.fieldLink RX0 27 "GoalLifts$Callers" "rodeAt" "[I", Cond.fieldLink RX0 30 "GoalLifts$Callers" "thereAt" "[I", Cond.fieldLink RX0 33 "GoalLifts$Callers" "timesGiven" "[I", Cond.methodLink RX4 21 yX2_init, Cond.instanceMethod yX2_init, Cond.code yX2_init cX2_init 2 none, Cond.methodLink RX2 3 objectInit, Cond.classLink RX2 9 RX3, Cond.fieldLink RX2 11 "GoalLifts$History" "states" "[LGoalLifts$House;", Cond.methodLink RX2 17 yX3_init, Cond.methodLink RL 126 yL_isSo, Cond.static yL_isSo, Cond.initialized RL, Cond.code yL_isSo cL_isSo 20 (some .boolean), Cond.constantLong RL 112 (1048575), Cond.constantLong RL 117 (2047), Cond.methodLink RL 109 yX4_car, Cond.instanceMethod yX4_car, Cond.selects RX4 yX4_car yX4_car, Cond.code yX4_car cX4_car 3 (some .int), Cond.fieldLink RX4 30 "GoalLifts$House" "cars" "LGoalLifts$Cars;"]
def wsL_law_r4 : List Cond := [Cond.fieldLink RX4 75 "GoalLifts$Cars" "floor" "[I", Cond.fieldLink RX4 55 "GoalLifts$Cars" "state" "[I", Cond.fieldLink RX4 58 "GoalLifts$House" "callers" "LGoalLifts$Callers;", Cond.fieldLink RX4 130 "GoalLifts$Cars" "travelled" "[I", Cond.methodLink RX4 52 yX1_has, Cond.instanceMethod yX1_has, Cond.selects RX1 yX1_has yX1_has, Cond.code yX1_has cX1_has 2 (some .boolean), Cond.fieldLink RX1 30 "GoalLifts$Cars" "count" "I", Cond.methodLink RX4 116 yX0_numberOf, Cond.instanceMethod yX0_numberOf, Cond.selects RX0 yX0_numberOf yX0_numberOf, Cond.code yX0_numberOf cX0_numberOf 5 (some .int), Cond.fieldLink RX0 36 "GoalLifts$Callers" "count" "I", Cond.methodLink RX4 119 yX0_stopsOf, Cond.instanceMethod yX0_stopsOf, Cond.selects RX0 yX0_stopsOf yX0_stopsOf, Cond.code yX0_stopsOf cX0_stopsOf 4 (some .int), Cond.methodLink RX0 54 yX0_waitsFor, Cond.instanceMethod yX0_waitsFor, Cond.selects RX0 yX0_waitsFor yX0_waitsFor, Cond.code yX0_waitsFor cX0_waitsFor 3 (some .boolean), Cond.methodLink RX0 58 yX0_rides, Cond.instanceMethod yX0_rides]
def wsL_law_r5 : List Cond := [Cond.selects RX0 yX0_rides yX0_rides, Cond.code yX0_rides cX0_rides 3 (some .boolean), Cond.methodLink RX4 122 yJ6_bitCount_0f7a4, Cond.static yJ6_bitCount_0f7a4, Cond.initialized RJ6, Cond.code yJ6_bitCount_0f7a4 cJ6_bitCount_0f7a4 1 (some .int), Cond.constant RJ6 265 (1431655765), Cond.constant RJ6 266 (858993459), Cond.constant RJ6 267 (252645135), Cond.methodLink RX4 127 yX0_aimOf, Cond.instanceMethod yX0_aimOf, Cond.selects RX0 yX0_aimOf yX0_aimOf, Cond.code yX0_aimOf cX0_aimOf 6 (some .int), Cond.methodLink RX0 61 yX0_isNearer, Cond.static yX0_isNearer, Cond.code yX0_isNearer cX0_isNearer 5 (some .boolean), Cond.methodLink RX0 65 Lib.Math.abs.name, Cond.static Lib.Math.abs.name, Cond.initialized "java/lang/Math", Cond.code Lib.Math.abs.name Lib.Math.abs.code 1 (some .int), Cond.methodLink RX4 133 yX3_isAwake, Cond.instanceMethod yX3_isAwake, Cond.selects RX3 yX3_isAwake yX3_isAwake, Cond.code yX3_isAwake cX3_isAwake 2 (some .boolean)]
def wsL_law_r6 : List Cond := [Cond.methodLink RX3 46 yX3_hour, Cond.instanceMethod yX3_hour, Cond.selects RX3 yX3_hour yX3_hour, Cond.code yX3_hour cX3_hour 1 (some .int), Cond.fieldLink RX3 29 "GoalLifts$House" "tick" "I", Cond.methodLink RL 38 yL_those, Cond.static yL_those, Cond.code yL_those cL_those 6 (some .int), Cond.methodLink RL 15 yL_is, Cond.static yL_is, Cond.code yL_is cL_is 2 (some .int), Cond.constantLong RL 9 (3), Cond.methodLink RL 21 yL_by, Cond.static yL_by, Cond.code yL_by cL_by 2 (some .int), Cond.constantLong RL 11 (7), Cond.methodLink RL 34 yL_stops, Cond.static yL_stops, Cond.code yL_stops cL_stops 8 (some .int), Cond.methodLink RL 24 yL_goal, Cond.static yL_goal, Cond.code yL_goal cL_goal 2 (some .int), Cond.constantLong RL 13 (15), Cond.methodLink RL 27 yL_floor]
def wsL_law_r7 : List Cond := [Cond.static yL_floor, Cond.code yL_floor cL_floor 2 (some .int), Cond.methodLink RL 53 yL_aim, Cond.static yL_aim, Cond.code yL_aim cL_aim 9 (some .int), Cond.methodLink RL 114 yX4_caller, Cond.instanceMethod yX4_caller, Cond.selects RX4 yX4_caller yX4_caller, Cond.code yX4_caller cX4_caller 3 (some .int), Cond.fieldLink RX4 137 "GoalLifts$Callers" "floor" "[I", Cond.fieldLink RX4 138 "GoalLifts$Callers" "goal" "[I", Cond.fieldLink RX4 141 "GoalLifts$Callers" "phase" "[I", Cond.fieldLink RX4 144 "GoalLifts$Callers" "given" "[I", Cond.fieldLink RX4 147 "GoalLifts$Callers" "calledAt" "[I", Cond.fieldLink RX4 150 "GoalLifts$Callers" "rodeAt" "[I", Cond.fieldLink RX4 153 "GoalLifts$Callers" "thereAt" "[I", Cond.fieldLink RX4 156 "GoalLifts$Callers" "timesGiven" "[I", Cond.methodLink RX4 136 yX0_has, Cond.instanceMethod yX0_has, Cond.selects RX0 yX0_has yX0_has, Cond.code yX0_has cX0_has 2 (some .boolean), Cond.methodLink RL 119 yX4_group, Cond.instanceMethod yX4_group, Cond.selects RX4 yX4_group yX4_group]
def wsL_law_r8 : List Cond := [Cond.code yX4_group cX4_group 4 (some .int), Cond.methodLink RX4 159 yX0_firstOfGroup, Cond.instanceMethod yX0_firstOfGroup, Cond.selects RX0 yX0_firstOfGroup yX0_firstOfGroup, Cond.code yX0_firstOfGroup cX0_firstOfGroup 4 (some .int), Cond.methodLink RX0 77 yX0_isFirstOfGroup, Cond.instanceMethod yX0_isFirstOfGroup, Cond.selects RX0 yX0_isFirstOfGroup yX0_isFirstOfGroup, Cond.code yX0_isFirstOfGroup cX0_isFirstOfGroup 3 (some .boolean), Cond.methodLink RX0 74 yX0_sameGroup, Cond.instanceMethod yX0_sameGroup, Cond.selects RX0 yX0_sameGroup yX0_sameGroup, Cond.code yX0_sameGroup cX0_sameGroup 3 (some .boolean), Cond.methodLink RX0 71 yX0_isInGroup, Cond.instanceMethod yX0_isInGroup, Cond.selects RX0 yX0_isInGroup yX0_isInGroup, Cond.code yX0_isInGroup cX0_isInGroup 2 (some .boolean), Cond.methodLink RX4 162 yX0_sizeOfGroup, Cond.instanceMethod yX0_sizeOfGroup, Cond.selects RX0 yX0_sizeOfGroup yX0_sizeOfGroup, Cond.code yX0_sizeOfGroup cX0_sizeOfGroup 4 (some .int), Cond.methodLink RL 122 yX4_count, Cond.instanceMethod yX4_count, Cond.selects RX4 yX4_count yX4_count]
def wsL_law_r9 : List Cond := [Cond.code yX4_count cX4_count 2 (some .int), Cond.fieldLink RX4 87 "GoalLifts$House" "tick" "I", Cond.fieldLink RX4 34 "GoalLifts$Cars" "count" "I", Cond.fieldLink RX4 82 "GoalLifts$Callers" "count" "I", Cond.fieldLink RX4 112 "GoalLifts$Cars" "stopsMade" "I", Cond.fieldLink RX4 98 "GoalLifts$History" "count" "I", Cond.methodLink RX4 102 yX3_hour, Cond.methodLink RX4 72 yX0_numberIn, Cond.instanceMethod yX0_numberIn, Cond.selects RX0 yX0_numberIn yX0_numberIn, Cond.code yX0_numberIn cX0_numberIn 4 (some .int), Cond.methodLink RX4 106 yX0_numberOfGroups, Cond.instanceMethod yX0_numberOfGroups, Cond.selects RX0 yX0_numberOfGroups yX0_numberOfGroups, Cond.code yX0_numberOfGroups cX0_numberOfGroups 3 (some .int), Cond.methodLink RX4 109 yX1_travelledByAll, Cond.instanceMethod yX1_travelledByAll, Cond.selects RX1 yX1_travelledByAll yX1_travelledByAll, Cond.code yX1_travelledByAll cX1_travelledByAll 3 (some .int), Cond.methodLink RX4 115 yX1_numberIn, Cond.instanceMethod yX1_numberIn, Cond.selects RX1 yX1_numberIn yX1_numberIn, Cond.code yX1_numberIn cX1_numberIn 4 (some .int), Cond.methodLink RL 130 yL_cell]
def wsL_law_r10 : List Cond := [Cond.static yL_cell, Cond.code yL_cell cL_cell 2 (some .int), Cond.constant RL 7 (40503), Cond.methodLink RL 134 yL_acts, Cond.static yL_acts, Cond.code yL_acts cL_acts 11 (some .boolean), Cond.constant RL 91 (10000000), Cond.methodLink RL 92 yL_low, Cond.static yL_low, Cond.code yL_low cL_low 2 (some .int), Cond.methodLink RL 95 yL_cars, Cond.static yL_cars, Cond.code yL_cars cL_cars 12 (some .boolean), Cond.methodLink RL 69 yX4_addCar, Cond.instanceMethod yX4_addCar, Cond.selects RX4 yX4_addCar yX4_addCar, Cond.code yX4_addCar cX4_addCar 4 (some .int), Cond.methodLink RX4 26 yX4_isFloor, Cond.static yX4_isFloor, Cond.code yX4_isFloor cX4_isFloor 1 (some .boolean), Cond.methodLink RX4 40 yX2_keep, Cond.instanceMethod yX2_keep, Cond.selects RX2 yX2_keep yX2_keep, Cond.code yX2_keep cX2_keep 3 none]
def wsL_law_r11 : List Cond := [Cond.fieldLink RX2 18 "GoalLifts$History" "next" "I", Cond.fieldLink RX2 32 "GoalLifts$History" "count" "I", Cond.methodLink RX2 35 Lib.Math.min.name, Cond.static Lib.Math.min.name, Cond.code Lib.Math.min.name Lib.Math.min.code 2 (some .int), Cond.methodLink RX2 22 yX3_copyFrom, Cond.instanceMethod yX3_copyFrom, Cond.selects RX3 yX3_copyFrom yX3_copyFrom, Cond.code yX3_copyFrom cX3_copyFrom 2 none, Cond.methodLink RX3 33 arraycopyName, Cond.native arraycopyName, Cond.static arraycopyName, Cond.initialized "java/lang/System", Cond.methodLink RX3 39 yX1_copyFrom, Cond.instanceMethod yX1_copyFrom, Cond.selects RX1 yX1_copyFrom yX1_copyFrom, Cond.code yX1_copyFrom cX1_copyFrom 2 none, Cond.fieldLink RX1 34 "GoalLifts$Cars" "stopsMade" "I", Cond.methodLink RX1 37 arraycopyName, Cond.methodLink RX3 43 yX0_copyFrom, Cond.instanceMethod yX0_copyFrom, Cond.selects RX0 yX0_copyFrom yX0_copyFrom, Cond.code yX0_copyFrom cX0_copyFrom 2 none, Cond.methodLink RX0 40 arraycopyName]
def wsL_law_r12 : List Cond := [Cond.methodLink RX2 26 yJ9_floorMod_7cf53, Cond.static yJ9_floorMod_7cf53, Cond.initialized RJ9, Cond.code yJ9_floorMod_7cf53 cJ9_floorMod_7cf53 3 (some .int), Cond.methodLink RX4 44 yX1_add, Cond.instanceMethod yX1_add, Cond.selects RX1 yX1_add yX1_add, Cond.code yX1_add cX1_add 5 (some .int), Cond.methodLink RL 75 yX4_setAwake, Cond.instanceMethod yX4_setAwake, Cond.selects RX4 yX4_setAwake yX4_setAwake, Cond.code yX4_setAwake cX4_setAwake 4 (some .int), Cond.fieldLink RX4 48 "GoalLifts$House" "awake" "[I", Cond.methodLink RL 78 yX4_hold, Cond.instanceMethod yX4_hold, Cond.selects RX4 yX4_hold yX4_hold, Cond.code yX4_hold cX4_hold 5 (some .int), Cond.methodLink RX4 62 yX0_numberWith, Cond.instanceMethod yX0_numberWith, Cond.selects RX0 yX0_numberWith yX0_numberWith, Cond.code yX0_numberWith cX0_numberWith 2 (some .int), Cond.methodLink RX0 50 yX0_numberOf, Cond.methodLink RL 81 yX4_fail, Cond.instanceMethod yX4_fail]
def wsL_law_r13 : List Cond := [Cond.selects RX4 yX4_fail yX4_fail, Cond.code yX4_fail cX4_fail 2 (some .int), Cond.methodLink RX4 68 yX3_breakCar, Cond.instanceMethod yX3_breakCar, Cond.selects RX3 yX3_breakCar yX3_breakCar, Cond.code yX3_breakCar cX3_breakCar 2 none, Cond.fieldLink RX3 50 "GoalLifts$Cars" "state" "[I", Cond.fieldLink RX3 61 "GoalLifts$Cars" "floor" "[I", Cond.methodLink RX3 131 yX0_loseCar, Cond.instanceMethod yX0_loseCar, Cond.selects RX0 yX0_loseCar yX0_loseCar, Cond.code yX0_loseCar cX0_loseCar 6 none, Cond.methodLink RL 85 yX4_repair, Cond.instanceMethod yX4_repair, Cond.selects RX4 yX4_repair yX4_repair, Cond.code yX4_repair cX4_repair 2 (some .int), Cond.methodLink RL 88 yL_fails, Cond.static yL_fails, Cond.code yL_fails cL_fails 10 none, Cond.constantLong RL 49 (256), Cond.constantLong RL 65 (-16), Cond.constantLong RL 67 (-512), Cond.methodLink RL 99 yX4_call, Cond.instanceMethod yX4_call]
def wsL_law_r14 : List Cond := [Cond.selects RX4 yX4_call yX4_call, Cond.code yX4_call cX4_call 5 (some .int), Cond.methodLink RX4 78 yX4_isWay, Cond.static yX4_isWay, Cond.code yX4_isWay cX4_isWay 2 (some .boolean), Cond.methodLink RX4 83 yX3_bestCar, Cond.instanceMethod yX3_bestCar, Cond.selects RX3 yX3_bestCar yX3_bestCar, Cond.code yX3_bestCar cX3_bestCar 7 (some .int), Cond.fieldLink RX3 81 "GoalLifts$Cars" "count" "I", Cond.methodLink RX3 84 yX3_canBeGiven, Cond.instanceMethod yX3_canBeGiven, Cond.selects RX3 yX3_canBeGiven yX3_canBeGiven, Cond.code yX3_canBeGiven cX3_canBeGiven 4 (some .boolean), Cond.methodLink RX3 53 yX3_isAwake, Cond.methodLink RX3 57 yX1_serves, Cond.instanceMethod yX1_serves, Cond.selects RX1 yX1_serves yX1_serves, Cond.code yX1_serves cX1_serves 3 (some .boolean), Cond.methodLink RX3 88 yX3_costOf, Cond.instanceMethod yX3_costOf, Cond.selects RX3 yX3_costOf yX3_costOf, Cond.code yX3_costOf cX3_costOf 6 (some .int), Cond.methodLink RX3 64 Lib.Math.abs.name]
def wsL_law_r15 : List Cond := [Cond.methodLink RX3 70 yX0_stopsOf, Cond.methodLink RX3 73 yJ6_bitCount_0f7a4, Cond.methodLink RX3 78 yX0_numberWith, Cond.methodLink RX4 90 yX0_add, Cond.instanceMethod yX0_add, Cond.selects RX0 yX0_add yX0_add, Cond.code yX0_add cX0_add 5 (some .int), Cond.methodLink RX4 91 yX0_give, Cond.instanceMethod yX0_give, Cond.selects RX0 yX0_give yX0_give, Cond.code yX0_give cX0_give 3 none, Cond.methodLink RX0 46 yX0_has, Cond.methodLink RL 57 yL_gives, Cond.static yL_gives, Cond.code yL_gives cL_gives 6 none, Cond.constantLong RL 51 (8192), Cond.methodLink RL 45 yL_which, Cond.static yL_which, Cond.code yL_which cL_which 10 (some .int), Cond.methodLink RL 41 yL_cost, Cond.static yL_cost, Cond.code yL_cost cL_cost 10 (some .int), Cond.methodLink RL 30 yL_far, Cond.static yL_far]
def wsL_law_r16 : List Cond := [Cond.code yL_far cL_far 2 (some .int), Cond.methodLink RL 102 yL_tick, Cond.static yL_tick, Cond.code yL_tick cL_tick 6 none, Cond.methodLink RL 61 yL_goes, Cond.static yL_goes, Cond.code yL_goes cL_goes 11 none, Cond.methodLink RL 106 yX4_pass, Cond.instanceMethod yX4_pass, Cond.selects RX4 yX4_pass yX4_pass, Cond.code yX4_pass cX4_pass 3 (some .int), Cond.methodLink RX4 95 yX3_oneTick, Cond.instanceMethod yX3_oneTick, Cond.selects RX3 yX3_oneTick yX3_oneTick, Cond.code yX3_oneTick cX3_oneTick 2 none, Cond.fieldLink RX3 92 "GoalLifts$Callers" "count" "I", Cond.fieldLink RX3 93 "GoalLifts$Callers" "phase" "[I", Cond.fieldLink RX3 96 "GoalLifts$Callers" "floor" "[I", Cond.fieldLink RX3 97 "GoalLifts$Callers" "goal" "[I", Cond.methodLink RX3 100 yX3_bestCar, Cond.methodLink RX3 104 yX0_give, Cond.methodLink RX3 108 yX3_stopOrTravel, Cond.instanceMethod yX3_stopOrTravel, Cond.selects RX3 yX3_stopOrTravel yX3_stopOrTravel]
def wsL_law_r17 : List Cond := [Cond.code yX3_stopOrTravel cX3_stopOrTravel 6 none, Cond.fieldLink RX3 115 "GoalLifts$Cars" "places" "[I", Cond.fieldLink RX3 122 "GoalLifts$Cars" "stopsMade" "I", Cond.methodLink RX3 112 yX0_letOut, Cond.instanceMethod yX0_letOut, Cond.selects RX0 yX0_letOut yX0_letOut, Cond.code yX0_letOut cX0_letOut 6 (some .int), Cond.methodLink RX3 118 yX0_takeIn, Cond.instanceMethod yX0_takeIn, Cond.selects RX0 yX0_takeIn yX0_takeIn, Cond.code yX0_takeIn cX0_takeIn 8 (some .int), Cond.methodLink RX3 125 yX0_aimOf, Cond.methodLink RX3 128 yX1_travelTowards, Cond.instanceMethod yX1_travelTowards, Cond.selects RX1 yX1_travelTowards yX1_travelTowards, Cond.code yX1_travelTowards cX1_travelTowards 3 none]
def wsL_law : List Cond := (wsL_law_r1 ++ (wsL_law_r2 ++ (wsL_law_r3 ++ (wsL_law_r4 ++ (wsL_law_r5 ++ (wsL_law_r6 ++ (wsL_law_r7 ++ (wsL_law_r8 ++ (wsL_law_r9 ++ (wsL_law_r10 ++ (wsL_law_r11 ++ (wsL_law_r12 ++ (wsL_law_r13 ++ (wsL_law_r14 ++ (wsL_law_r15 ++ (wsL_law_r16 ++ wsL_law_r17)))))))))))))))) ++ wsX40 ++ wsX30 ++ wsX20 ++ wsX10 ++ wsX00 ++ ([] : List Cond)
set_option maxRecDepth 20000 in
theorem inlX0 : ∀ w ∈ wsX00, w ∈ wsL_law := fun _ h => List.mem_append_left _ (List.mem_append_right _ h)
theorem inlX1 : ∀ w ∈ wsX10, w ∈ wsL_law := fun _ h => List.mem_append_left _ (List.mem_append_left _ (List.mem_append_right _ h))
theorem inlX2 : ∀ w ∈ wsX20, w ∈ wsL_law := fun _ h => List.mem_append_left _ (List.mem_append_left _ (List.mem_append_left _ (List.mem_append_right _ h)))
theorem inlX3 : ∀ w ∈ wsX30, w ∈ wsL_law := fun _ h => List.mem_append_left _ (List.mem_append_left _ (List.mem_append_left _ (List.mem_append_left _ (List.mem_append_right _ h))))
theorem inlX4 : ∀ w ∈ wsX40, w ∈ wsL_law := fun _ h => List.mem_append_left _ (List.mem_append_left _ (List.mem_append_left _ (List.mem_append_left _ (List.mem_append_left _ (List.mem_append_right _ h)))))
theorem inJ6 : ∀ w ∈ wsJ60, w ∈ lw_tbl := by decide +kernel
theorem inJ9 : ∀ w ∈ wsJ90, w ∈ lw_tbl := by decide +kernel
theorem inJ10 : ∀ w ∈ wsJ100, w ∈ lw_tbl := by decide +kernel
abbrev vwCl : List vw_C := [(RX0, TX0, 9), (RX1, TX1, 8), (RX2, TX2, 3), (RX3, TX3, 4), (RX4, TX4, 3)]
end
section
theorem dX0_init_0 : decode cX0_init 0 = .ok (.aload_n 0, 1) := by decide +kernel
theorem dX0_init_1 : decode cX0_init 1 = .ok (.invokespecial 3, 3) := by decide +kernel
theorem dX0_init_4 : decode cX0_init 4 = .ok (.aload_n 0, 1) := by decide +kernel
theorem dX0_init_5 : decode cX0_init 5 = .ok (.bipush 40, 2) := by decide +kernel
theorem dX0_init_7 : decode cX0_init 7 = .ok (.newarray .int, 2) := by decide +kernel
theorem dX0_init_9 : decode cX0_init 9 = .ok (.putfield 9, 3) := by decide +kernel
theorem dX0_init_12 : decode cX0_init 12 = .ok (.aload_n 0, 1) := by decide +kernel
theorem dX0_init_13 : decode cX0_init 13 = .ok (.bipush 40, 2) := by decide +kernel
theorem dX0_init_15 : decode cX0_init 15 = .ok (.newarray .int, 2) := by decide +kernel
theorem dX0_init_17 : decode cX0_init 17 = .ok (.putfield 15, 3) := by decide +kernel
theorem dX0_init_20 : decode cX0_init 20 = .ok (.aload_n 0, 1) := by decide +kernel
theorem dX0_init_21 : decode cX0_init 21 = .ok (.bipush 40, 2) := by decide +kernel
theorem dX0_init_23 : decode cX0_init 23 = .ok (.newarray .int, 2) := by decide +kernel
theorem dX0_init_25 : decode cX0_init 25 = .ok (.putfield 18, 3) := by decide +kernel
theorem dX0_init_28 : decode cX0_init 28 = .ok (.aload_n 0, 1) := by decide +kernel
theorem dX0_init_29 : decode cX0_init 29 = .ok (.bipush 40, 2) := by decide +kernel
theorem dX0_init_31 : decode cX0_init 31 = .ok (.newarray .int, 2) := by decide +kernel
theorem dX0_init_33 : decode cX0_init 33 = .ok (.putfield 21, 3) := by decide +kernel
theorem dX0_init_36 : decode cX0_init 36 = .ok (.aload_n 0, 1) := by decide +kernel
theorem dX0_init_37 : decode cX0_init 37 = .ok (.bipush 40, 2) := by decide +kernel
theorem dX0_init_39 : decode cX0_init 39 = .ok (.newarray .int, 2) := by decide +kernel
theorem dX0_init_41 : decode cX0_init 41 = .ok (.putfield 24, 3) := by decide +kernel
theorem dX0_init_44 : decode cX0_init 44 = .ok (.aload_n 0, 1) := by decide +kernel
theorem dX0_init_45 : decode cX0_init 45 = .ok (.bipush 40, 2) := by decide +kernel
theorem dX0_init_47 : decode cX0_init 47 = .ok (.newarray .int, 2) := by decide +kernel
theorem dX0_init_49 : decode cX0_init 49 = .ok (.putfield 27, 3) := by decide +kernel
theorem dX0_init_52 : decode cX0_init 52 = .ok (.aload_n 0, 1) := by decide +kernel
theorem dX0_init_53 : decode cX0_init 53 = .ok (.bipush 40, 2) := by decide +kernel
theorem dX0_init_55 : decode cX0_init 55 = .ok (.newarray .int, 2) := by decide +kernel
theorem dX0_init_57 : decode cX0_init 57 = .ok (.putfield 30, 3) := by decide +kernel
theorem dX0_init_60 : decode cX0_init 60 = .ok (.aload_n 0, 1) := by decide +kernel
theorem dX0_init_61 : decode cX0_init 61 = .ok (.bipush 40, 2) := by decide +kernel
theorem dX0_init_63 : decode cX0_init 63 = .ok (.newarray .int, 2) := by decide +kernel
theorem dX0_init_65 : decode cX0_init 65 = .ok (.putfield 33, 3) := by decide +kernel
theorem dX0_init_68 : decode cX0_init 68 = .ok (.return_, 1) := by decide +kernel
theorem dX0_copyFrom_0 : decode cX0_copyFrom 0 = .ok (.aload_n 0, 1) := by decide +kernel
theorem dX0_copyFrom_1 : decode cX0_copyFrom 1 = .ok (.aload_n 1, 1) := by decide +kernel
theorem dX0_copyFrom_2 : decode cX0_copyFrom 2 = .ok (.getfield 36, 3) := by decide +kernel
theorem dX0_copyFrom_5 : decode cX0_copyFrom 5 = .ok (.putfield 36, 3) := by decide +kernel
theorem dX0_copyFrom_8 : decode cX0_copyFrom 8 = .ok (.aload_n 1, 1) := by decide +kernel
theorem dX0_copyFrom_9 : decode cX0_copyFrom 9 = .ok (.getfield 9, 3) := by decide +kernel
theorem dX0_copyFrom_12 : decode cX0_copyFrom 12 = .ok (.iconst 0, 1) := by decide +kernel
theorem dX0_copyFrom_13 : decode cX0_copyFrom 13 = .ok (.aload_n 0, 1) := by decide +kernel
theorem dX0_copyFrom_14 : decode cX0_copyFrom 14 = .ok (.getfield 9, 3) := by decide +kernel
theorem dX0_copyFrom_17 : decode cX0_copyFrom 17 = .ok (.iconst 0, 1) := by decide +kernel
theorem dX0_copyFrom_18 : decode cX0_copyFrom 18 = .ok (.bipush 40, 2) := by decide +kernel
theorem dX0_copyFrom_20 : decode cX0_copyFrom 20 = .ok (.invokestatic 40, 3) := by decide +kernel
theorem dX0_copyFrom_23 : decode cX0_copyFrom 23 = .ok (.aload_n 1, 1) := by decide +kernel
theorem dX0_copyFrom_24 : decode cX0_copyFrom 24 = .ok (.getfield 15, 3) := by decide +kernel
theorem dX0_copyFrom_27 : decode cX0_copyFrom 27 = .ok (.iconst 0, 1) := by decide +kernel
theorem dX0_copyFrom_28 : decode cX0_copyFrom 28 = .ok (.aload_n 0, 1) := by decide +kernel
theorem dX0_copyFrom_29 : decode cX0_copyFrom 29 = .ok (.getfield 15, 3) := by decide +kernel
theorem dX0_copyFrom_32 : decode cX0_copyFrom 32 = .ok (.iconst 0, 1) := by decide +kernel
theorem dX0_copyFrom_33 : decode cX0_copyFrom 33 = .ok (.bipush 40, 2) := by decide +kernel
theorem dX0_copyFrom_35 : decode cX0_copyFrom 35 = .ok (.invokestatic 40, 3) := by decide +kernel
theorem dX0_copyFrom_38 : decode cX0_copyFrom 38 = .ok (.aload_n 1, 1) := by decide +kernel
theorem dX0_copyFrom_39 : decode cX0_copyFrom 39 = .ok (.getfield 18, 3) := by decide +kernel
theorem dX0_copyFrom_42 : decode cX0_copyFrom 42 = .ok (.iconst 0, 1) := by decide +kernel
theorem dX0_copyFrom_43 : decode cX0_copyFrom 43 = .ok (.aload_n 0, 1) := by decide +kernel
theorem dX0_copyFrom_44 : decode cX0_copyFrom 44 = .ok (.getfield 18, 3) := by decide +kernel
theorem dX0_copyFrom_47 : decode cX0_copyFrom 47 = .ok (.iconst 0, 1) := by decide +kernel
theorem dX0_copyFrom_48 : decode cX0_copyFrom 48 = .ok (.bipush 40, 2) := by decide +kernel
theorem dX0_copyFrom_50 : decode cX0_copyFrom 50 = .ok (.invokestatic 40, 3) := by decide +kernel
theorem dX0_copyFrom_53 : decode cX0_copyFrom 53 = .ok (.aload_n 1, 1) := by decide +kernel
theorem dX0_copyFrom_54 : decode cX0_copyFrom 54 = .ok (.getfield 21, 3) := by decide +kernel
theorem dX0_copyFrom_57 : decode cX0_copyFrom 57 = .ok (.iconst 0, 1) := by decide +kernel
theorem dX0_copyFrom_58 : decode cX0_copyFrom 58 = .ok (.aload_n 0, 1) := by decide +kernel
theorem dX0_copyFrom_59 : decode cX0_copyFrom 59 = .ok (.getfield 21, 3) := by decide +kernel
theorem dX0_copyFrom_62 : decode cX0_copyFrom 62 = .ok (.iconst 0, 1) := by decide +kernel
theorem dX0_copyFrom_63 : decode cX0_copyFrom 63 = .ok (.bipush 40, 2) := by decide +kernel
theorem dX0_copyFrom_65 : decode cX0_copyFrom 65 = .ok (.invokestatic 40, 3) := by decide +kernel
theorem dX0_copyFrom_68 : decode cX0_copyFrom 68 = .ok (.aload_n 1, 1) := by decide +kernel
theorem dX0_copyFrom_69 : decode cX0_copyFrom 69 = .ok (.getfield 24, 3) := by decide +kernel
theorem dX0_copyFrom_72 : decode cX0_copyFrom 72 = .ok (.iconst 0, 1) := by decide +kernel
theorem dX0_copyFrom_73 : decode cX0_copyFrom 73 = .ok (.aload_n 0, 1) := by decide +kernel
theorem dX0_copyFrom_74 : decode cX0_copyFrom 74 = .ok (.getfield 24, 3) := by decide +kernel
theorem dX0_copyFrom_77 : decode cX0_copyFrom 77 = .ok (.iconst 0, 1) := by decide +kernel
theorem dX0_copyFrom_78 : decode cX0_copyFrom 78 = .ok (.bipush 40, 2) := by decide +kernel
theorem dX0_copyFrom_80 : decode cX0_copyFrom 80 = .ok (.invokestatic 40, 3) := by decide +kernel
theorem dX0_copyFrom_83 : decode cX0_copyFrom 83 = .ok (.aload_n 1, 1) := by decide +kernel
theorem dX0_copyFrom_84 : decode cX0_copyFrom 84 = .ok (.getfield 27, 3) := by decide +kernel
theorem dX0_copyFrom_87 : decode cX0_copyFrom 87 = .ok (.iconst 0, 1) := by decide +kernel
theorem dX0_copyFrom_88 : decode cX0_copyFrom 88 = .ok (.aload_n 0, 1) := by decide +kernel
theorem dX0_copyFrom_89 : decode cX0_copyFrom 89 = .ok (.getfield 27, 3) := by decide +kernel
theorem dX0_copyFrom_92 : decode cX0_copyFrom 92 = .ok (.iconst 0, 1) := by decide +kernel
theorem dX0_copyFrom_93 : decode cX0_copyFrom 93 = .ok (.bipush 40, 2) := by decide +kernel
theorem dX0_copyFrom_95 : decode cX0_copyFrom 95 = .ok (.invokestatic 40, 3) := by decide +kernel
theorem dX0_copyFrom_98 : decode cX0_copyFrom 98 = .ok (.aload_n 1, 1) := by decide +kernel
theorem dX0_copyFrom_99 : decode cX0_copyFrom 99 = .ok (.getfield 30, 3) := by decide +kernel
theorem dX0_copyFrom_102 : decode cX0_copyFrom 102 = .ok (.iconst 0, 1) := by decide +kernel
theorem dX0_copyFrom_103 : decode cX0_copyFrom 103 = .ok (.aload_n 0, 1) := by decide +kernel
theorem dX0_copyFrom_104 : decode cX0_copyFrom 104 = .ok (.getfield 30, 3) := by decide +kernel
theorem dX0_copyFrom_107 : decode cX0_copyFrom 107 = .ok (.iconst 0, 1) := by decide +kernel
theorem dX0_copyFrom_108 : decode cX0_copyFrom 108 = .ok (.bipush 40, 2) := by decide +kernel
theorem dX0_copyFrom_110 : decode cX0_copyFrom 110 = .ok (.invokestatic 40, 3) := by decide +kernel
theorem dX0_copyFrom_113 : decode cX0_copyFrom 113 = .ok (.aload_n 1, 1) := by decide +kernel
theorem dX0_copyFrom_114 : decode cX0_copyFrom 114 = .ok (.getfield 33, 3) := by decide +kernel
theorem dX0_copyFrom_117 : decode cX0_copyFrom 117 = .ok (.iconst 0, 1) := by decide +kernel
theorem dX0_copyFrom_118 : decode cX0_copyFrom 118 = .ok (.aload_n 0, 1) := by decide +kernel
theorem dX0_copyFrom_119 : decode cX0_copyFrom 119 = .ok (.getfield 33, 3) := by decide +kernel
theorem dX0_copyFrom_122 : decode cX0_copyFrom 122 = .ok (.iconst 0, 1) := by decide +kernel
theorem dX0_copyFrom_123 : decode cX0_copyFrom 123 = .ok (.bipush 40, 2) := by decide +kernel
theorem dX0_copyFrom_125 : decode cX0_copyFrom 125 = .ok (.invokestatic 40, 3) := by decide +kernel
theorem dX0_copyFrom_128 : decode cX0_copyFrom 128 = .ok (.return_, 1) := by decide +kernel
theorem dX0_has_0 : decode cX0_has 0 = .ok (.iload_n 1, 1) := by decide +kernel
theorem dX0_has_1 : decode cX0_has 1 = .ok (.ifCond .lt 15, 3) := by decide +kernel
theorem dX0_has_4 : decode cX0_has 4 = .ok (.iload_n 1, 1) := by decide +kernel
theorem dX0_has_5 : decode cX0_has 5 = .ok (.aload_n 0, 1) := by decide +kernel
theorem dX0_has_6 : decode cX0_has 6 = .ok (.getfield 36, 3) := by decide +kernel
theorem dX0_has_9 : decode cX0_has 9 = .ok (.if_icmp .ge 7, 3) := by decide +kernel
theorem dX0_has_12 : decode cX0_has 12 = .ok (.iconst 1, 1) := by decide +kernel
theorem dX0_has_13 : decode cX0_has 13 = .ok (.goto 4, 3) := by decide +kernel
theorem dX0_has_16 : decode cX0_has 16 = .ok (.iconst 0, 1) := by decide +kernel
theorem dX0_has_17 : decode cX0_has 17 = .ok (.ireturn, 1) := by decide +kernel
theorem dX0_add_0 : decode cX0_add 0 = .ok (.aload_n 0, 1) := by decide +kernel
theorem dX0_add_1 : decode cX0_add 1 = .ok (.getfield 36, 3) := by decide +kernel
theorem dX0_add_4 : decode cX0_add 4 = .ok (.istore 4, 2) := by decide +kernel
theorem dX0_add_6 : decode cX0_add 6 = .ok (.iload 4, 2) := by decide +kernel
theorem dX0_add_8 : decode cX0_add 8 = .ok (.bipush 40, 2) := by decide +kernel
theorem dX0_add_10 : decode cX0_add 10 = .ok (.if_icmp .lt 6, 3) := by decide +kernel
theorem dX0_add_13 : decode cX0_add 13 = .ok (.bipush (-9), 2) := by decide +kernel
theorem dX0_add_15 : decode cX0_add 15 = .ok (.ireturn, 1) := by decide +kernel
theorem dX0_add_16 : decode cX0_add 16 = .ok (.aload_n 0, 1) := by decide +kernel
theorem dX0_add_17 : decode cX0_add 17 = .ok (.getfield 9, 3) := by decide +kernel
theorem dX0_add_20 : decode cX0_add 20 = .ok (.iload 4, 2) := by decide +kernel
theorem dX0_add_22 : decode cX0_add 22 = .ok (.iload_n 1, 1) := by decide +kernel
theorem dX0_add_23 : decode cX0_add 23 = .ok (.iastore, 1) := by decide +kernel
theorem dX0_add_24 : decode cX0_add 24 = .ok (.aload_n 0, 1) := by decide +kernel
theorem dX0_add_25 : decode cX0_add 25 = .ok (.getfield 15, 3) := by decide +kernel
theorem dX0_add_28 : decode cX0_add 28 = .ok (.iload 4, 2) := by decide +kernel
theorem dX0_add_30 : decode cX0_add 30 = .ok (.iload_n 2, 1) := by decide +kernel
theorem dX0_add_31 : decode cX0_add 31 = .ok (.iastore, 1) := by decide +kernel
theorem dX0_add_32 : decode cX0_add 32 = .ok (.aload_n 0, 1) := by decide +kernel
theorem dX0_add_33 : decode cX0_add 33 = .ok (.getfield 18, 3) := by decide +kernel
theorem dX0_add_36 : decode cX0_add 36 = .ok (.iload 4, 2) := by decide +kernel
theorem dX0_add_38 : decode cX0_add 38 = .ok (.iconst 0, 1) := by decide +kernel
theorem dX0_add_39 : decode cX0_add 39 = .ok (.iastore, 1) := by decide +kernel
theorem dX0_add_40 : decode cX0_add 40 = .ok (.aload_n 0, 1) := by decide +kernel
theorem dX0_add_41 : decode cX0_add 41 = .ok (.getfield 21, 3) := by decide +kernel
theorem dX0_add_44 : decode cX0_add 44 = .ok (.iload 4, 2) := by decide +kernel
theorem dX0_add_46 : decode cX0_add 46 = .ok (.bipush (-9), 2) := by decide +kernel
theorem dX0_add_48 : decode cX0_add 48 = .ok (.iastore, 1) := by decide +kernel
theorem dX0_add_49 : decode cX0_add 49 = .ok (.aload_n 0, 1) := by decide +kernel
theorem dX0_add_50 : decode cX0_add 50 = .ok (.getfield 24, 3) := by decide +kernel
theorem dX0_add_53 : decode cX0_add 53 = .ok (.iload 4, 2) := by decide +kernel
theorem dX0_add_55 : decode cX0_add 55 = .ok (.iload_n 3, 1) := by decide +kernel
theorem dX0_add_56 : decode cX0_add 56 = .ok (.iastore, 1) := by decide +kernel
theorem dX0_add_57 : decode cX0_add 57 = .ok (.aload_n 0, 1) := by decide +kernel
theorem dX0_add_58 : decode cX0_add 58 = .ok (.getfield 27, 3) := by decide +kernel
theorem dX0_add_61 : decode cX0_add 61 = .ok (.iload 4, 2) := by decide +kernel
theorem dX0_add_63 : decode cX0_add 63 = .ok (.bipush (-9), 2) := by decide +kernel
theorem dX0_add_65 : decode cX0_add 65 = .ok (.iastore, 1) := by decide +kernel
theorem dX0_add_66 : decode cX0_add 66 = .ok (.aload_n 0, 1) := by decide +kernel
theorem dX0_add_67 : decode cX0_add 67 = .ok (.getfield 30, 3) := by decide +kernel
theorem dX0_add_70 : decode cX0_add 70 = .ok (.iload 4, 2) := by decide +kernel
theorem dX0_add_72 : decode cX0_add 72 = .ok (.bipush (-9), 2) := by decide +kernel
theorem dX0_add_74 : decode cX0_add 74 = .ok (.iastore, 1) := by decide +kernel
theorem dX0_add_75 : decode cX0_add 75 = .ok (.aload_n 0, 1) := by decide +kernel
theorem dX0_add_76 : decode cX0_add 76 = .ok (.getfield 33, 3) := by decide +kernel
theorem dX0_add_79 : decode cX0_add 79 = .ok (.iload 4, 2) := by decide +kernel
theorem dX0_add_81 : decode cX0_add 81 = .ok (.iconst 0, 1) := by decide +kernel
theorem dX0_add_82 : decode cX0_add 82 = .ok (.iastore, 1) := by decide +kernel
theorem dX0_add_83 : decode cX0_add 83 = .ok (.aload_n 0, 1) := by decide +kernel
theorem dX0_add_84 : decode cX0_add 84 = .ok (.iload 4, 2) := by decide +kernel
theorem dX0_add_86 : decode cX0_add 86 = .ok (.iconst 1, 1) := by decide +kernel
theorem dX0_add_87 : decode cX0_add 87 = .ok (.iadd, 1) := by decide +kernel
theorem dX0_add_88 : decode cX0_add 88 = .ok (.putfield 36, 3) := by decide +kernel
theorem dX0_add_91 : decode cX0_add 91 = .ok (.iload 4, 2) := by decide +kernel
theorem dX0_add_93 : decode cX0_add 93 = .ok (.ireturn, 1) := by decide +kernel
set_option maxRecDepth 20000 in
theorem ggX0_give_X0_has : GoodIn wsX0_give wsX0_has := goodIn_r _ [8, 9, 10, 11, 12, 13, 14, 15, 16, 17, 18] (by decide +kernel) (by decide +kernel)
set_option maxRecDepth 20000 in
theorem gX0_give_X0_has : GoodIn wsX0_give (wsV RX0 46 RX0 yX0_has wsX0_has) := goodIn_app (goodIn_of _ (by decide +kernel)) ggX0_give_X0_has
theorem dX0_give_0 : decode cX0_give 0 = .ok (.iload_n 2, 1) := by decide +kernel
theorem dX0_give_1 : decode cX0_give 1 = .ok (.bipush (-9), 2) := by decide +kernel
theorem dX0_give_3 : decode cX0_give 3 = .ok (.if_icmp .eq 11, 3) := by decide +kernel
theorem dX0_give_6 : decode cX0_give 6 = .ok (.aload_n 0, 1) := by decide +kernel
theorem dX0_give_7 : decode cX0_give 7 = .ok (.iload_n 1, 1) := by decide +kernel
theorem dX0_give_8 : decode cX0_give 8 = .ok (.invokevirtual 46, 3) := by decide +kernel
theorem dX0_give_11 : decode cX0_give 11 = .ok (.ifCond .ne 4, 3) := by decide +kernel
theorem dX0_give_14 : decode cX0_give 14 = .ok (.return_, 1) := by decide +kernel
theorem dX0_give_15 : decode cX0_give 15 = .ok (.aload_n 0, 1) := by decide +kernel
theorem dX0_give_16 : decode cX0_give 16 = .ok (.getfield 18, 3) := by decide +kernel
theorem dX0_give_19 : decode cX0_give 19 = .ok (.iload_n 1, 1) := by decide +kernel
theorem dX0_give_20 : decode cX0_give 20 = .ok (.iconst 1, 1) := by decide +kernel
theorem dX0_give_21 : decode cX0_give 21 = .ok (.iastore, 1) := by decide +kernel
theorem dX0_give_22 : decode cX0_give 22 = .ok (.aload_n 0, 1) := by decide +kernel
theorem dX0_give_23 : decode cX0_give 23 = .ok (.getfield 21, 3) := by decide +kernel
theorem dX0_give_26 : decode cX0_give 26 = .ok (.iload_n 1, 1) := by decide +kernel
theorem dX0_give_27 : decode cX0_give 27 = .ok (.iload_n 2, 1) := by decide +kernel
theorem dX0_give_28 : decode cX0_give 28 = .ok (.iastore, 1) := by decide +kernel
theorem dX0_give_29 : decode cX0_give 29 = .ok (.aload_n 0, 1) := by decide +kernel
theorem dX0_give_30 : decode cX0_give 30 = .ok (.getfield 33, 3) := by decide +kernel
theorem dX0_give_33 : decode cX0_give 33 = .ok (.iload_n 1, 1) := by decide +kernel
theorem dX0_give_34 : decode cX0_give 34 = .ok (.dup2, 1) := by decide +kernel
theorem dX0_give_35 : decode cX0_give 35 = .ok (.iaload, 1) := by decide +kernel
theorem dX0_give_36 : decode cX0_give 36 = .ok (.iconst 1, 1) := by decide +kernel
theorem dX0_give_37 : decode cX0_give 37 = .ok (.iadd, 1) := by decide +kernel
theorem dX0_give_38 : decode cX0_give 38 = .ok (.iastore, 1) := by decide +kernel
theorem dX0_give_39 : decode cX0_give 39 = .ok (.return_, 1) := by decide +kernel
theorem dX0_rides_0 : decode cX0_rides 0 = .ok (.aload_n 0, 1) := by decide +kernel
theorem dX0_rides_1 : decode cX0_rides 1 = .ok (.getfield 18, 3) := by decide +kernel
theorem dX0_rides_4 : decode cX0_rides 4 = .ok (.iload_n 1, 1) := by decide +kernel
theorem dX0_rides_5 : decode cX0_rides 5 = .ok (.iaload, 1) := by decide +kernel
theorem dX0_rides_6 : decode cX0_rides 6 = .ok (.iconst 2, 1) := by decide +kernel
theorem dX0_rides_7 : decode cX0_rides 7 = .ok (.if_icmp .ne 17, 3) := by decide +kernel
theorem dX0_rides_10 : decode cX0_rides 10 = .ok (.aload_n 0, 1) := by decide +kernel
theorem dX0_rides_11 : decode cX0_rides 11 = .ok (.getfield 21, 3) := by decide +kernel
theorem dX0_rides_14 : decode cX0_rides 14 = .ok (.iload_n 1, 1) := by decide +kernel
theorem dX0_rides_15 : decode cX0_rides 15 = .ok (.iaload, 1) := by decide +kernel
theorem dX0_rides_16 : decode cX0_rides 16 = .ok (.iload_n 2, 1) := by decide +kernel
theorem dX0_rides_17 : decode cX0_rides 17 = .ok (.if_icmp .ne 7, 3) := by decide +kernel
theorem dX0_rides_20 : decode cX0_rides 20 = .ok (.iconst 1, 1) := by decide +kernel
theorem dX0_rides_21 : decode cX0_rides 21 = .ok (.goto 4, 3) := by decide +kernel
theorem dX0_rides_24 : decode cX0_rides 24 = .ok (.iconst 0, 1) := by decide +kernel
theorem dX0_rides_25 : decode cX0_rides 25 = .ok (.ireturn, 1) := by decide +kernel
theorem dX0_waitsFor_0 : decode cX0_waitsFor 0 = .ok (.aload_n 0, 1) := by decide +kernel
theorem dX0_waitsFor_1 : decode cX0_waitsFor 1 = .ok (.getfield 18, 3) := by decide +kernel
theorem dX0_waitsFor_4 : decode cX0_waitsFor 4 = .ok (.iload_n 1, 1) := by decide +kernel
theorem dX0_waitsFor_5 : decode cX0_waitsFor 5 = .ok (.iaload, 1) := by decide +kernel
theorem dX0_waitsFor_6 : decode cX0_waitsFor 6 = .ok (.iconst 1, 1) := by decide +kernel
theorem dX0_waitsFor_7 : decode cX0_waitsFor 7 = .ok (.if_icmp .ne 17, 3) := by decide +kernel
theorem dX0_waitsFor_10 : decode cX0_waitsFor 10 = .ok (.aload_n 0, 1) := by decide +kernel
theorem dX0_waitsFor_11 : decode cX0_waitsFor 11 = .ok (.getfield 21, 3) := by decide +kernel
theorem dX0_waitsFor_14 : decode cX0_waitsFor 14 = .ok (.iload_n 1, 1) := by decide +kernel
theorem dX0_waitsFor_15 : decode cX0_waitsFor 15 = .ok (.iaload, 1) := by decide +kernel
theorem dX0_waitsFor_16 : decode cX0_waitsFor 16 = .ok (.iload_n 2, 1) := by decide +kernel
theorem dX0_waitsFor_17 : decode cX0_waitsFor 17 = .ok (.if_icmp .ne 7, 3) := by decide +kernel
theorem dX0_waitsFor_20 : decode cX0_waitsFor 20 = .ok (.iconst 1, 1) := by decide +kernel
theorem dX0_waitsFor_21 : decode cX0_waitsFor 21 = .ok (.goto 4, 3) := by decide +kernel
theorem dX0_waitsFor_24 : decode cX0_waitsFor 24 = .ok (.iconst 0, 1) := by decide +kernel
theorem dX0_waitsFor_25 : decode cX0_waitsFor 25 = .ok (.ireturn, 1) := by decide +kernel
theorem dX0_numberIn_0 : decode cX0_numberIn 0 = .ok (.iconst 0, 1) := by decide +kernel
theorem dX0_numberIn_1 : decode cX0_numberIn 1 = .ok (.istore_n 2, 1) := by decide +kernel
theorem dX0_numberIn_2 : decode cX0_numberIn 2 = .ok (.iconst 0, 1) := by decide +kernel
theorem dX0_numberIn_3 : decode cX0_numberIn 3 = .ok (.istore_n 3, 1) := by decide +kernel
theorem dX0_numberIn_4 : decode cX0_numberIn 4 = .ok (.iload_n 3, 1) := by decide +kernel
theorem dX0_numberIn_5 : decode cX0_numberIn 5 = .ok (.aload_n 0, 1) := by decide +kernel
theorem dX0_numberIn_6 : decode cX0_numberIn 6 = .ok (.getfield 36, 3) := by decide +kernel
theorem dX0_numberIn_9 : decode cX0_numberIn 9 = .ok (.if_icmp .ge 22, 3) := by decide +kernel
theorem dX0_numberIn_12 : decode cX0_numberIn 12 = .ok (.aload_n 0, 1) := by decide +kernel
theorem dX0_numberIn_13 : decode cX0_numberIn 13 = .ok (.getfield 18, 3) := by decide +kernel
theorem dX0_numberIn_16 : decode cX0_numberIn 16 = .ok (.iload_n 3, 1) := by decide +kernel
theorem dX0_numberIn_17 : decode cX0_numberIn 17 = .ok (.iaload, 1) := by decide +kernel
theorem dX0_numberIn_18 : decode cX0_numberIn 18 = .ok (.iload_n 1, 1) := by decide +kernel
theorem dX0_numberIn_19 : decode cX0_numberIn 19 = .ok (.if_icmp .ne 6, 3) := by decide +kernel
theorem dX0_numberIn_22 : decode cX0_numberIn 22 = .ok (.iinc 2 1, 3) := by decide +kernel
theorem dX0_numberIn_25 : decode cX0_numberIn 25 = .ok (.iinc 3 1, 3) := by decide +kernel
theorem dX0_numberIn_28 : decode cX0_numberIn 28 = .ok (.goto (-24), 3) := by decide +kernel
theorem dX0_numberIn_31 : decode cX0_numberIn 31 = .ok (.iload_n 2, 1) := by decide +kernel
theorem dX0_numberIn_32 : decode cX0_numberIn 32 = .ok (.ireturn, 1) := by decide +kernel
theorem dX0_numberOf_0 : decode cX0_numberOf 0 = .ok (.iconst 0, 1) := by decide +kernel
theorem dX0_numberOf_1 : decode cX0_numberOf 1 = .ok (.istore_n 3, 1) := by decide +kernel
theorem dX0_numberOf_2 : decode cX0_numberOf 2 = .ok (.iconst 0, 1) := by decide +kernel
theorem dX0_numberOf_3 : decode cX0_numberOf 3 = .ok (.istore 4, 2) := by decide +kernel
theorem dX0_numberOf_5 : decode cX0_numberOf 5 = .ok (.iload 4, 2) := by decide +kernel
theorem dX0_numberOf_7 : decode cX0_numberOf 7 = .ok (.aload_n 0, 1) := by decide +kernel
theorem dX0_numberOf_8 : decode cX0_numberOf 8 = .ok (.getfield 36, 3) := by decide +kernel
theorem dX0_numberOf_11 : decode cX0_numberOf 11 = .ok (.if_icmp .ge 34, 3) := by decide +kernel
theorem dX0_numberOf_14 : decode cX0_numberOf 14 = .ok (.aload_n 0, 1) := by decide +kernel
theorem dX0_numberOf_15 : decode cX0_numberOf 15 = .ok (.getfield 18, 3) := by decide +kernel
theorem dX0_numberOf_18 : decode cX0_numberOf 18 = .ok (.iload 4, 2) := by decide +kernel
theorem dX0_numberOf_20 : decode cX0_numberOf 20 = .ok (.iaload, 1) := by decide +kernel
theorem dX0_numberOf_21 : decode cX0_numberOf 21 = .ok (.iload_n 2, 1) := by decide +kernel
theorem dX0_numberOf_22 : decode cX0_numberOf 22 = .ok (.if_icmp .ne 17, 3) := by decide +kernel
theorem dX0_numberOf_25 : decode cX0_numberOf 25 = .ok (.aload_n 0, 1) := by decide +kernel
theorem dX0_numberOf_26 : decode cX0_numberOf 26 = .ok (.getfield 21, 3) := by decide +kernel
theorem dX0_numberOf_29 : decode cX0_numberOf 29 = .ok (.iload 4, 2) := by decide +kernel
theorem dX0_numberOf_31 : decode cX0_numberOf 31 = .ok (.iaload, 1) := by decide +kernel
theorem dX0_numberOf_32 : decode cX0_numberOf 32 = .ok (.iload_n 1, 1) := by decide +kernel
theorem dX0_numberOf_33 : decode cX0_numberOf 33 = .ok (.if_icmp .ne 6, 3) := by decide +kernel
theorem dX0_numberOf_36 : decode cX0_numberOf 36 = .ok (.iinc 3 1, 3) := by decide +kernel
theorem dX0_numberOf_39 : decode cX0_numberOf 39 = .ok (.iinc 4 1, 3) := by decide +kernel
theorem dX0_numberOf_42 : decode cX0_numberOf 42 = .ok (.goto (-37), 3) := by decide +kernel
theorem dX0_numberOf_45 : decode cX0_numberOf 45 = .ok (.iload_n 3, 1) := by decide +kernel
theorem dX0_numberOf_46 : decode cX0_numberOf 46 = .ok (.ireturn, 1) := by decide +kernel
set_option maxRecDepth 20000 in
theorem ggX0_numberWith_X0_numberOf : GoodIn wsX0_numberWith wsX0_numberOf := goodIn_r _ [5, 6, 7, 8, 9, 10, 11, 12, 13, 14, 15, 16, 17] (by decide +kernel) (by decide +kernel)
set_option maxRecDepth 20000 in
theorem gX0_numberWith_X0_numberOf : GoodIn wsX0_numberWith (wsV RX0 50 RX0 yX0_numberOf wsX0_numberOf) := goodIn_app (goodIn_of _ (by decide +kernel)) ggX0_numberWith_X0_numberOf
theorem dX0_numberWith_0 : decode cX0_numberWith 0 = .ok (.aload_n 0, 1) := by decide +kernel
theorem dX0_numberWith_1 : decode cX0_numberWith 1 = .ok (.iload_n 1, 1) := by decide +kernel
theorem dX0_numberWith_2 : decode cX0_numberWith 2 = .ok (.iconst 1, 1) := by decide +kernel
theorem dX0_numberWith_3 : decode cX0_numberWith 3 = .ok (.invokevirtual 50, 3) := by decide +kernel
theorem dX0_numberWith_6 : decode cX0_numberWith 6 = .ok (.aload_n 0, 1) := by decide +kernel
theorem dX0_numberWith_7 : decode cX0_numberWith 7 = .ok (.iload_n 1, 1) := by decide +kernel
theorem dX0_numberWith_8 : decode cX0_numberWith 8 = .ok (.iconst 2, 1) := by decide +kernel
theorem dX0_numberWith_9 : decode cX0_numberWith 9 = .ok (.invokevirtual 50, 3) := by decide +kernel
theorem dX0_numberWith_12 : decode cX0_numberWith 12 = .ok (.iadd, 1) := by decide +kernel
theorem dX0_numberWith_13 : decode cX0_numberWith 13 = .ok (.ireturn, 1) := by decide +kernel
set_option maxRecDepth 20000 in
theorem ggX0_stopsOf_X0_waitsFor : GoodIn wsX0_stopsOf wsX0_waitsFor := goodIn_r _ [8, 9, 10, 15, 16, 17, 18, 19, 20, 21, 22, 23] (by decide +kernel) (by decide +kernel)
set_option maxRecDepth 20000 in
theorem gX0_stopsOf_X0_waitsFor : GoodIn wsX0_stopsOf (wsV RX0 54 RX0 yX0_waitsFor wsX0_waitsFor) := goodIn_app (goodIn_of _ (by decide +kernel)) ggX0_stopsOf_X0_waitsFor
set_option maxRecDepth 20000 in
theorem ggX0_stopsOf_X0_rides : GoodIn wsX0_stopsOf wsX0_rides := goodIn_r _ [14, 9, 10, 15, 16, 17, 18, 19, 20, 21, 22, 23] (by decide +kernel) (by decide +kernel)
set_option maxRecDepth 20000 in
theorem gX0_stopsOf_X0_rides : GoodIn wsX0_stopsOf (wsV RX0 58 RX0 yX0_rides wsX0_rides) := goodIn_app (goodIn_of _ (by decide +kernel)) ggX0_stopsOf_X0_rides
theorem dX0_stopsOf_0 : decode cX0_stopsOf 0 = .ok (.iconst 0, 1) := by decide +kernel
theorem dX0_stopsOf_1 : decode cX0_stopsOf 1 = .ok (.istore_n 2, 1) := by decide +kernel
theorem dX0_stopsOf_2 : decode cX0_stopsOf 2 = .ok (.iconst 0, 1) := by decide +kernel
theorem dX0_stopsOf_3 : decode cX0_stopsOf 3 = .ok (.istore_n 3, 1) := by decide +kernel
theorem dX0_stopsOf_4 : decode cX0_stopsOf 4 = .ok (.iload_n 3, 1) := by decide +kernel
theorem dX0_stopsOf_5 : decode cX0_stopsOf 5 = .ok (.aload_n 0, 1) := by decide +kernel
theorem dX0_stopsOf_6 : decode cX0_stopsOf 6 = .ok (.getfield 36, 3) := by decide +kernel
theorem dX0_stopsOf_9 : decode cX0_stopsOf 9 = .ok (.if_icmp .ge 61, 3) := by decide +kernel
theorem dX0_stopsOf_12 : decode cX0_stopsOf 12 = .ok (.aload_n 0, 1) := by decide +kernel
theorem dX0_stopsOf_13 : decode cX0_stopsOf 13 = .ok (.iload_n 3, 1) := by decide +kernel
theorem dX0_stopsOf_14 : decode cX0_stopsOf 14 = .ok (.iload_n 1, 1) := by decide +kernel
theorem dX0_stopsOf_15 : decode cX0_stopsOf 15 = .ok (.invokevirtual 54, 3) := by decide +kernel
theorem dX0_stopsOf_18 : decode cX0_stopsOf 18 = .ok (.ifCond .eq 26, 3) := by decide +kernel
theorem dX0_stopsOf_21 : decode cX0_stopsOf 21 = .ok (.iload_n 2, 1) := by decide +kernel
theorem dX0_stopsOf_22 : decode cX0_stopsOf 22 = .ok (.iconst 1, 1) := by decide +kernel
theorem dX0_stopsOf_23 : decode cX0_stopsOf 23 = .ok (.aload_n 0, 1) := by decide +kernel
theorem dX0_stopsOf_24 : decode cX0_stopsOf 24 = .ok (.getfield 9, 3) := by decide +kernel
theorem dX0_stopsOf_27 : decode cX0_stopsOf 27 = .ok (.iload_n 3, 1) := by decide +kernel
theorem dX0_stopsOf_28 : decode cX0_stopsOf 28 = .ok (.iaload, 1) := by decide +kernel
theorem dX0_stopsOf_29 : decode cX0_stopsOf 29 = .ok (.ishl, 1) := by decide +kernel
theorem dX0_stopsOf_30 : decode cX0_stopsOf 30 = .ok (.iconst 1, 1) := by decide +kernel
theorem dX0_stopsOf_31 : decode cX0_stopsOf 31 = .ok (.aload_n 0, 1) := by decide +kernel
theorem dX0_stopsOf_32 : decode cX0_stopsOf 32 = .ok (.getfield 15, 3) := by decide +kernel
theorem dX0_stopsOf_35 : decode cX0_stopsOf 35 = .ok (.iload_n 3, 1) := by decide +kernel
theorem dX0_stopsOf_36 : decode cX0_stopsOf 36 = .ok (.iaload, 1) := by decide +kernel
theorem dX0_stopsOf_37 : decode cX0_stopsOf 37 = .ok (.ishl, 1) := by decide +kernel
theorem dX0_stopsOf_38 : decode cX0_stopsOf 38 = .ok (.ior, 1) := by decide +kernel
theorem dX0_stopsOf_39 : decode cX0_stopsOf 39 = .ok (.ior, 1) := by decide +kernel
theorem dX0_stopsOf_40 : decode cX0_stopsOf 40 = .ok (.istore_n 2, 1) := by decide +kernel
theorem dX0_stopsOf_41 : decode cX0_stopsOf 41 = .ok (.goto 23, 3) := by decide +kernel
theorem dX0_stopsOf_44 : decode cX0_stopsOf 44 = .ok (.aload_n 0, 1) := by decide +kernel
theorem dX0_stopsOf_45 : decode cX0_stopsOf 45 = .ok (.iload_n 3, 1) := by decide +kernel
theorem dX0_stopsOf_46 : decode cX0_stopsOf 46 = .ok (.iload_n 1, 1) := by decide +kernel
theorem dX0_stopsOf_47 : decode cX0_stopsOf 47 = .ok (.invokevirtual 58, 3) := by decide +kernel
theorem dX0_stopsOf_50 : decode cX0_stopsOf 50 = .ok (.ifCond .eq 14, 3) := by decide +kernel
theorem dX0_stopsOf_53 : decode cX0_stopsOf 53 = .ok (.iload_n 2, 1) := by decide +kernel
theorem dX0_stopsOf_54 : decode cX0_stopsOf 54 = .ok (.iconst 1, 1) := by decide +kernel
theorem dX0_stopsOf_55 : decode cX0_stopsOf 55 = .ok (.aload_n 0, 1) := by decide +kernel
theorem dX0_stopsOf_56 : decode cX0_stopsOf 56 = .ok (.getfield 15, 3) := by decide +kernel
theorem dX0_stopsOf_59 : decode cX0_stopsOf 59 = .ok (.iload_n 3, 1) := by decide +kernel
theorem dX0_stopsOf_60 : decode cX0_stopsOf 60 = .ok (.iaload, 1) := by decide +kernel
theorem dX0_stopsOf_61 : decode cX0_stopsOf 61 = .ok (.ishl, 1) := by decide +kernel
theorem dX0_stopsOf_62 : decode cX0_stopsOf 62 = .ok (.ior, 1) := by decide +kernel
theorem dX0_stopsOf_63 : decode cX0_stopsOf 63 = .ok (.istore_n 2, 1) := by decide +kernel
theorem dX0_stopsOf_64 : decode cX0_stopsOf 64 = .ok (.iinc 3 1, 3) := by decide +kernel
theorem dX0_stopsOf_67 : decode cX0_stopsOf 67 = .ok (.goto (-63), 3) := by decide +kernel
theorem dX0_stopsOf_70 : decode cX0_stopsOf 70 = .ok (.iload_n 2, 1) := by decide +kernel
theorem dX0_stopsOf_71 : decode cX0_stopsOf 71 = .ok (.ireturn, 1) := by decide +kernel
set_option maxRecDepth 20000 in
theorem ggX0_aimOf_X0_rides : GoodIn wsX0_aimOf wsX0_rides := goodIn_r _ [8, 9, 10, 22, 23, 24, 25, 26, 27, 28, 29, 30] (by decide +kernel) (by decide +kernel)
set_option maxRecDepth 20000 in
theorem gX0_aimOf_X0_rides : GoodIn wsX0_aimOf (wsV RX0 58 RX0 yX0_rides wsX0_rides) := goodIn_app (goodIn_of _ (by decide +kernel)) ggX0_aimOf_X0_rides
set_option maxRecDepth 20000 in
theorem ggX0_aimOf_X0_isNearer : GoodIn wsX0_aimOf wsX0_isNearer := goodIn_r _ [13, 14, 15, 16, 17] (by decide +kernel) (by decide +kernel)
set_option maxRecDepth 20000 in
theorem gX0_aimOf_X0_isNearer : GoodIn wsX0_aimOf (va_wsS RX0 61 yX0_isNearer wsX0_isNearer) := goodIn_app (goodIn_of _ (by decide +kernel)) ggX0_aimOf_X0_isNearer
set_option maxRecDepth 20000 in
theorem ggX0_aimOf_X0_waitsFor : GoodIn wsX0_aimOf wsX0_waitsFor := goodIn_r _ [21, 9, 10, 22, 23, 24, 25, 26, 27, 28, 29, 30] (by decide +kernel) (by decide +kernel)
set_option maxRecDepth 20000 in
theorem gX0_aimOf_X0_waitsFor : GoodIn wsX0_aimOf (wsV RX0 54 RX0 yX0_waitsFor wsX0_waitsFor) := goodIn_app (goodIn_of _ (by decide +kernel)) ggX0_aimOf_X0_waitsFor
theorem dX0_aimOf_0 : decode cX0_aimOf 0 = .ok (.bipush (-9), 2) := by decide +kernel
theorem dX0_aimOf_2 : decode cX0_aimOf 2 = .ok (.istore_n 3, 1) := by decide +kernel
theorem dX0_aimOf_3 : decode cX0_aimOf 3 = .ok (.bipush (-9), 2) := by decide +kernel
theorem dX0_aimOf_5 : decode cX0_aimOf 5 = .ok (.istore 4, 2) := by decide +kernel
theorem dX0_aimOf_7 : decode cX0_aimOf 7 = .ok (.iconst 0, 1) := by decide +kernel
theorem dX0_aimOf_8 : decode cX0_aimOf 8 = .ok (.istore 5, 2) := by decide +kernel
theorem dX0_aimOf_10 : decode cX0_aimOf 10 = .ok (.iload 5, 2) := by decide +kernel
theorem dX0_aimOf_12 : decode cX0_aimOf 12 = .ok (.aload_n 0, 1) := by decide +kernel
theorem dX0_aimOf_13 : decode cX0_aimOf 13 = .ok (.getfield 36, 3) := by decide +kernel
theorem dX0_aimOf_16 : decode cX0_aimOf 16 = .ok (.if_icmp .ge 77, 3) := by decide +kernel
theorem dX0_aimOf_19 : decode cX0_aimOf 19 = .ok (.aload_n 0, 1) := by decide +kernel
theorem dX0_aimOf_20 : decode cX0_aimOf 20 = .ok (.iload 5, 2) := by decide +kernel
theorem dX0_aimOf_22 : decode cX0_aimOf 22 = .ok (.iload_n 1, 1) := by decide +kernel
theorem dX0_aimOf_23 : decode cX0_aimOf 23 = .ok (.invokevirtual 58, 3) := by decide +kernel
theorem dX0_aimOf_26 : decode cX0_aimOf 26 = .ok (.ifCond .eq 35, 3) := by decide +kernel
theorem dX0_aimOf_29 : decode cX0_aimOf 29 = .ok (.iload_n 3, 1) := by decide +kernel
theorem dX0_aimOf_30 : decode cX0_aimOf 30 = .ok (.bipush (-9), 2) := by decide +kernel
theorem dX0_aimOf_32 : decode cX0_aimOf 32 = .ok (.if_icmp .eq 18, 3) := by decide +kernel
theorem dX0_aimOf_35 : decode cX0_aimOf 35 = .ok (.aload_n 0, 1) := by decide +kernel
theorem dX0_aimOf_36 : decode cX0_aimOf 36 = .ok (.getfield 15, 3) := by decide +kernel
theorem dX0_aimOf_39 : decode cX0_aimOf 39 = .ok (.iload 5, 2) := by decide +kernel
theorem dX0_aimOf_41 : decode cX0_aimOf 41 = .ok (.iaload, 1) := by decide +kernel
theorem dX0_aimOf_42 : decode cX0_aimOf 42 = .ok (.iload_n 3, 1) := by decide +kernel
theorem dX0_aimOf_43 : decode cX0_aimOf 43 = .ok (.iload_n 2, 1) := by decide +kernel
theorem dX0_aimOf_44 : decode cX0_aimOf 44 = .ok (.invokestatic 61, 3) := by decide +kernel
theorem dX0_aimOf_47 : decode cX0_aimOf 47 = .ok (.ifCond .eq 40, 3) := by decide +kernel
theorem dX0_aimOf_50 : decode cX0_aimOf 50 = .ok (.aload_n 0, 1) := by decide +kernel
theorem dX0_aimOf_51 : decode cX0_aimOf 51 = .ok (.getfield 15, 3) := by decide +kernel
theorem dX0_aimOf_54 : decode cX0_aimOf 54 = .ok (.iload 5, 2) := by decide +kernel
theorem dX0_aimOf_56 : decode cX0_aimOf 56 = .ok (.iaload, 1) := by decide +kernel
theorem dX0_aimOf_57 : decode cX0_aimOf 57 = .ok (.istore_n 3, 1) := by decide +kernel
theorem dX0_aimOf_58 : decode cX0_aimOf 58 = .ok (.goto 29, 3) := by decide +kernel
theorem dX0_aimOf_61 : decode cX0_aimOf 61 = .ok (.iload 4, 2) := by decide +kernel
theorem dX0_aimOf_63 : decode cX0_aimOf 63 = .ok (.bipush (-9), 2) := by decide +kernel
theorem dX0_aimOf_65 : decode cX0_aimOf 65 = .ok (.if_icmp .ne 22, 3) := by decide +kernel
theorem dX0_aimOf_68 : decode cX0_aimOf 68 = .ok (.aload_n 0, 1) := by decide +kernel
theorem dX0_aimOf_69 : decode cX0_aimOf 69 = .ok (.iload 5, 2) := by decide +kernel
theorem dX0_aimOf_71 : decode cX0_aimOf 71 = .ok (.iload_n 1, 1) := by decide +kernel
theorem dX0_aimOf_72 : decode cX0_aimOf 72 = .ok (.invokevirtual 54, 3) := by decide +kernel
theorem dX0_aimOf_75 : decode cX0_aimOf 75 = .ok (.ifCond .eq 12, 3) := by decide +kernel
theorem dX0_aimOf_78 : decode cX0_aimOf 78 = .ok (.aload_n 0, 1) := by decide +kernel
theorem dX0_aimOf_79 : decode cX0_aimOf 79 = .ok (.getfield 9, 3) := by decide +kernel
theorem dX0_aimOf_82 : decode cX0_aimOf 82 = .ok (.iload 5, 2) := by decide +kernel
theorem dX0_aimOf_84 : decode cX0_aimOf 84 = .ok (.iaload, 1) := by decide +kernel
theorem dX0_aimOf_85 : decode cX0_aimOf 85 = .ok (.istore 4, 2) := by decide +kernel
theorem dX0_aimOf_87 : decode cX0_aimOf 87 = .ok (.iinc 5 1, 3) := by decide +kernel
theorem dX0_aimOf_90 : decode cX0_aimOf 90 = .ok (.goto (-80), 3) := by decide +kernel
theorem dX0_aimOf_93 : decode cX0_aimOf 93 = .ok (.iload_n 3, 1) := by decide +kernel
theorem dX0_aimOf_94 : decode cX0_aimOf 94 = .ok (.bipush (-9), 2) := by decide +kernel
theorem dX0_aimOf_96 : decode cX0_aimOf 96 = .ok (.if_icmp .eq 7, 3) := by decide +kernel
theorem dX0_aimOf_99 : decode cX0_aimOf 99 = .ok (.iload_n 3, 1) := by decide +kernel
theorem dX0_aimOf_100 : decode cX0_aimOf 100 = .ok (.goto 5, 3) := by decide +kernel
theorem dX0_aimOf_103 : decode cX0_aimOf 103 = .ok (.iload 4, 2) := by decide +kernel
theorem dX0_aimOf_105 : decode cX0_aimOf 105 = .ok (.ireturn, 1) := by decide +kernel
theorem dX0_isNearer_0 : decode cX0_isNearer 0 = .ok (.iload_n 0, 1) := by decide +kernel
theorem dX0_isNearer_1 : decode cX0_isNearer 1 = .ok (.iload_n 2, 1) := by decide +kernel
theorem dX0_isNearer_2 : decode cX0_isNearer 2 = .ok (.isub, 1) := by decide +kernel
theorem dX0_isNearer_3 : decode cX0_isNearer 3 = .ok (.invokestatic 65, 3) := by decide +kernel
theorem dX0_isNearer_6 : decode cX0_isNearer 6 = .ok (.istore_n 3, 1) := by decide +kernel
theorem dX0_isNearer_7 : decode cX0_isNearer 7 = .ok (.iload_n 1, 1) := by decide +kernel
theorem dX0_isNearer_8 : decode cX0_isNearer 8 = .ok (.iload_n 2, 1) := by decide +kernel
theorem dX0_isNearer_9 : decode cX0_isNearer 9 = .ok (.isub, 1) := by decide +kernel
theorem dX0_isNearer_10 : decode cX0_isNearer 10 = .ok (.invokestatic 65, 3) := by decide +kernel
theorem dX0_isNearer_13 : decode cX0_isNearer 13 = .ok (.istore 4, 2) := by decide +kernel
theorem dX0_isNearer_15 : decode cX0_isNearer 15 = .ok (.iload_n 3, 1) := by decide +kernel
theorem dX0_isNearer_16 : decode cX0_isNearer 16 = .ok (.iload 4, 2) := by decide +kernel
theorem dX0_isNearer_18 : decode cX0_isNearer 18 = .ok (.if_icmp .lt 14, 3) := by decide +kernel
theorem dX0_isNearer_21 : decode cX0_isNearer 21 = .ok (.iload_n 3, 1) := by decide +kernel
theorem dX0_isNearer_22 : decode cX0_isNearer 22 = .ok (.iload 4, 2) := by decide +kernel
theorem dX0_isNearer_24 : decode cX0_isNearer 24 = .ok (.if_icmp .ne 12, 3) := by decide +kernel
theorem dX0_isNearer_27 : decode cX0_isNearer 27 = .ok (.iload_n 0, 1) := by decide +kernel
theorem dX0_isNearer_28 : decode cX0_isNearer 28 = .ok (.iload_n 1, 1) := by decide +kernel
theorem dX0_isNearer_29 : decode cX0_isNearer 29 = .ok (.if_icmp .ge 7, 3) := by decide +kernel
theorem dX0_isNearer_32 : decode cX0_isNearer 32 = .ok (.iconst 1, 1) := by decide +kernel
theorem dX0_isNearer_33 : decode cX0_isNearer 33 = .ok (.goto 4, 3) := by decide +kernel
theorem dX0_isNearer_36 : decode cX0_isNearer 36 = .ok (.iconst 0, 1) := by decide +kernel
theorem dX0_isNearer_37 : decode cX0_isNearer 37 = .ok (.ireturn, 1) := by decide +kernel
set_option maxRecDepth 20000 in
theorem ggX0_letOut_X0_rides : GoodIn wsX0_letOut wsX0_rides := goodIn_r _ [9, 3, 10, 11, 12, 13, 14, 15, 16, 17, 18, 19] (by decide +kernel) (by decide +kernel)
set_option maxRecDepth 20000 in
theorem gX0_letOut_X0_rides : GoodIn wsX0_letOut (wsV RX0 58 RX0 yX0_rides wsX0_rides) := goodIn_app (goodIn_of _ (by decide +kernel)) ggX0_letOut_X0_rides
theorem dX0_letOut_0 : decode cX0_letOut 0 = .ok (.iconst 0, 1) := by decide +kernel
theorem dX0_letOut_1 : decode cX0_letOut 1 = .ok (.istore 4, 2) := by decide +kernel
theorem dX0_letOut_3 : decode cX0_letOut 3 = .ok (.iconst 0, 1) := by decide +kernel
theorem dX0_letOut_4 : decode cX0_letOut 4 = .ok (.istore 5, 2) := by decide +kernel
theorem dX0_letOut_6 : decode cX0_letOut 6 = .ok (.iload 5, 2) := by decide +kernel
theorem dX0_letOut_8 : decode cX0_letOut 8 = .ok (.aload_n 0, 1) := by decide +kernel
theorem dX0_letOut_9 : decode cX0_letOut 9 = .ok (.getfield 36, 3) := by decide +kernel
theorem dX0_letOut_12 : decode cX0_letOut 12 = .ok (.if_icmp .ge 49, 3) := by decide +kernel
theorem dX0_letOut_15 : decode cX0_letOut 15 = .ok (.aload_n 0, 1) := by decide +kernel
theorem dX0_letOut_16 : decode cX0_letOut 16 = .ok (.iload 5, 2) := by decide +kernel
theorem dX0_letOut_18 : decode cX0_letOut 18 = .ok (.iload_n 1, 1) := by decide +kernel
theorem dX0_letOut_19 : decode cX0_letOut 19 = .ok (.invokevirtual 58, 3) := by decide +kernel
theorem dX0_letOut_22 : decode cX0_letOut 22 = .ok (.ifCond .eq 33, 3) := by decide +kernel
theorem dX0_letOut_25 : decode cX0_letOut 25 = .ok (.aload_n 0, 1) := by decide +kernel
theorem dX0_letOut_26 : decode cX0_letOut 26 = .ok (.getfield 15, 3) := by decide +kernel
theorem dX0_letOut_29 : decode cX0_letOut 29 = .ok (.iload 5, 2) := by decide +kernel
theorem dX0_letOut_31 : decode cX0_letOut 31 = .ok (.iaload, 1) := by decide +kernel
theorem dX0_letOut_32 : decode cX0_letOut 32 = .ok (.iload_n 2, 1) := by decide +kernel
theorem dX0_letOut_33 : decode cX0_letOut 33 = .ok (.if_icmp .ne 22, 3) := by decide +kernel
theorem dX0_letOut_36 : decode cX0_letOut 36 = .ok (.aload_n 0, 1) := by decide +kernel
theorem dX0_letOut_37 : decode cX0_letOut 37 = .ok (.getfield 18, 3) := by decide +kernel
theorem dX0_letOut_40 : decode cX0_letOut 40 = .ok (.iload 5, 2) := by decide +kernel
theorem dX0_letOut_42 : decode cX0_letOut 42 = .ok (.iconst 3, 1) := by decide +kernel
theorem dX0_letOut_43 : decode cX0_letOut 43 = .ok (.iastore, 1) := by decide +kernel
theorem dX0_letOut_44 : decode cX0_letOut 44 = .ok (.aload_n 0, 1) := by decide +kernel
theorem dX0_letOut_45 : decode cX0_letOut 45 = .ok (.getfield 30, 3) := by decide +kernel
theorem dX0_letOut_48 : decode cX0_letOut 48 = .ok (.iload 5, 2) := by decide +kernel
theorem dX0_letOut_50 : decode cX0_letOut 50 = .ok (.iload_n 3, 1) := by decide +kernel
theorem dX0_letOut_51 : decode cX0_letOut 51 = .ok (.iastore, 1) := by decide +kernel
theorem dX0_letOut_52 : decode cX0_letOut 52 = .ok (.iinc 4 1, 3) := by decide +kernel
theorem dX0_letOut_55 : decode cX0_letOut 55 = .ok (.iinc 5 1, 3) := by decide +kernel
theorem dX0_letOut_58 : decode cX0_letOut 58 = .ok (.goto (-52), 3) := by decide +kernel
theorem dX0_letOut_61 : decode cX0_letOut 61 = .ok (.iload 4, 2) := by decide +kernel
theorem dX0_letOut_63 : decode cX0_letOut 63 = .ok (.ireturn, 1) := by decide +kernel
set_option maxRecDepth 20000 in
theorem ggX0_takeIn_X0_numberOf : GoodIn wsX0_takeIn wsX0_numberOf := goodIn_r _ [9, 1, 3, 10, 15, 16, 17, 18, 19, 20, 21, 22, 23] (by decide +kernel) (by decide +kernel)
set_option maxRecDepth 20000 in
theorem gX0_takeIn_X0_numberOf : GoodIn wsX0_takeIn (wsV RX0 50 RX0 yX0_numberOf wsX0_numberOf) := goodIn_app (goodIn_of _ (by decide +kernel)) ggX0_takeIn_X0_numberOf
set_option maxRecDepth 20000 in
theorem ggX0_takeIn_X0_waitsFor : GoodIn wsX0_takeIn wsX0_waitsFor := goodIn_r _ [14, 3, 10, 15, 16, 17, 18, 19, 20, 21, 22, 23] (by decide +kernel) (by decide +kernel)
set_option maxRecDepth 20000 in
theorem gX0_takeIn_X0_waitsFor : GoodIn wsX0_takeIn (wsV RX0 54 RX0 yX0_waitsFor wsX0_waitsFor) := goodIn_app (goodIn_of _ (by decide +kernel)) ggX0_takeIn_X0_waitsFor
theorem dX0_takeIn_0 : decode cX0_takeIn 0 = .ok (.iload_n 3, 1) := by decide +kernel
theorem dX0_takeIn_1 : decode cX0_takeIn 1 = .ok (.aload_n 0, 1) := by decide +kernel
theorem dX0_takeIn_2 : decode cX0_takeIn 2 = .ok (.iload_n 1, 1) := by decide +kernel
theorem dX0_takeIn_3 : decode cX0_takeIn 3 = .ok (.iconst 2, 1) := by decide +kernel
theorem dX0_takeIn_4 : decode cX0_takeIn 4 = .ok (.invokevirtual 50, 3) := by decide +kernel
theorem dX0_takeIn_7 : decode cX0_takeIn 7 = .ok (.isub, 1) := by decide +kernel
theorem dX0_takeIn_8 : decode cX0_takeIn 8 = .ok (.istore 5, 2) := by decide +kernel
theorem dX0_takeIn_10 : decode cX0_takeIn 10 = .ok (.iconst 0, 1) := by decide +kernel
theorem dX0_takeIn_11 : decode cX0_takeIn 11 = .ok (.istore 6, 2) := by decide +kernel
theorem dX0_takeIn_13 : decode cX0_takeIn 13 = .ok (.iconst 0, 1) := by decide +kernel
theorem dX0_takeIn_14 : decode cX0_takeIn 14 = .ok (.istore 7, 2) := by decide +kernel
theorem dX0_takeIn_16 : decode cX0_takeIn 16 = .ok (.iload 7, 2) := by decide +kernel
theorem dX0_takeIn_18 : decode cX0_takeIn 18 = .ok (.aload_n 0, 1) := by decide +kernel
theorem dX0_takeIn_19 : decode cX0_takeIn 19 = .ok (.getfield 36, 3) := by decide +kernel
theorem dX0_takeIn_22 : decode cX0_takeIn 22 = .ok (.if_icmp .ge 57, 3) := by decide +kernel
theorem dX0_takeIn_25 : decode cX0_takeIn 25 = .ok (.iload 6, 2) := by decide +kernel
theorem dX0_takeIn_27 : decode cX0_takeIn 27 = .ok (.iload 5, 2) := by decide +kernel
theorem dX0_takeIn_29 : decode cX0_takeIn 29 = .ok (.if_icmp .ge 50, 3) := by decide +kernel
theorem dX0_takeIn_32 : decode cX0_takeIn 32 = .ok (.aload_n 0, 1) := by decide +kernel
theorem dX0_takeIn_33 : decode cX0_takeIn 33 = .ok (.iload 7, 2) := by decide +kernel
theorem dX0_takeIn_35 : decode cX0_takeIn 35 = .ok (.iload_n 1, 1) := by decide +kernel
theorem dX0_takeIn_36 : decode cX0_takeIn 36 = .ok (.invokevirtual 54, 3) := by decide +kernel
theorem dX0_takeIn_39 : decode cX0_takeIn 39 = .ok (.ifCond .eq 34, 3) := by decide +kernel
theorem dX0_takeIn_42 : decode cX0_takeIn 42 = .ok (.aload_n 0, 1) := by decide +kernel
theorem dX0_takeIn_43 : decode cX0_takeIn 43 = .ok (.getfield 9, 3) := by decide +kernel
theorem dX0_takeIn_46 : decode cX0_takeIn 46 = .ok (.iload 7, 2) := by decide +kernel
theorem dX0_takeIn_48 : decode cX0_takeIn 48 = .ok (.iaload, 1) := by decide +kernel
theorem dX0_takeIn_49 : decode cX0_takeIn 49 = .ok (.iload_n 2, 1) := by decide +kernel
theorem dX0_takeIn_50 : decode cX0_takeIn 50 = .ok (.if_icmp .ne 23, 3) := by decide +kernel
theorem dX0_takeIn_53 : decode cX0_takeIn 53 = .ok (.aload_n 0, 1) := by decide +kernel
theorem dX0_takeIn_54 : decode cX0_takeIn 54 = .ok (.getfield 18, 3) := by decide +kernel
theorem dX0_takeIn_57 : decode cX0_takeIn 57 = .ok (.iload 7, 2) := by decide +kernel
theorem dX0_takeIn_59 : decode cX0_takeIn 59 = .ok (.iconst 2, 1) := by decide +kernel
theorem dX0_takeIn_60 : decode cX0_takeIn 60 = .ok (.iastore, 1) := by decide +kernel
theorem dX0_takeIn_61 : decode cX0_takeIn 61 = .ok (.aload_n 0, 1) := by decide +kernel
theorem dX0_takeIn_62 : decode cX0_takeIn 62 = .ok (.getfield 27, 3) := by decide +kernel
theorem dX0_takeIn_65 : decode cX0_takeIn 65 = .ok (.iload 7, 2) := by decide +kernel
theorem dX0_takeIn_67 : decode cX0_takeIn 67 = .ok (.iload 4, 2) := by decide +kernel
theorem dX0_takeIn_69 : decode cX0_takeIn 69 = .ok (.iastore, 1) := by decide +kernel
theorem dX0_takeIn_70 : decode cX0_takeIn 70 = .ok (.iinc 6 1, 3) := by decide +kernel
theorem dX0_takeIn_73 : decode cX0_takeIn 73 = .ok (.iinc 7 1, 3) := by decide +kernel
theorem dX0_takeIn_76 : decode cX0_takeIn 76 = .ok (.goto (-60), 3) := by decide +kernel
theorem dX0_takeIn_79 : decode cX0_takeIn 79 = .ok (.iload 6, 2) := by decide +kernel
theorem dX0_takeIn_81 : decode cX0_takeIn 81 = .ok (.ireturn, 1) := by decide +kernel
set_option maxRecDepth 20000 in
theorem ggX0_loseCar_X0_rides : GoodIn wsX0_loseCar wsX0_rides := goodIn_r _ [11, 4, 6, 16, 17, 18, 19, 20, 21, 22, 23, 24] (by decide +kernel) (by decide +kernel)
set_option maxRecDepth 20000 in
theorem gX0_loseCar_X0_rides : GoodIn wsX0_loseCar (wsV RX0 58 RX0 yX0_rides wsX0_rides) := goodIn_app (goodIn_of _ (by decide +kernel)) ggX0_loseCar_X0_rides
set_option maxRecDepth 20000 in
theorem ggX0_loseCar_X0_waitsFor : GoodIn wsX0_loseCar wsX0_waitsFor := goodIn_r _ [15, 4, 6, 16, 17, 18, 19, 20, 21, 22, 23, 24] (by decide +kernel) (by decide +kernel)
set_option maxRecDepth 20000 in
theorem gX0_loseCar_X0_waitsFor : GoodIn wsX0_loseCar (wsV RX0 54 RX0 yX0_waitsFor wsX0_waitsFor) := goodIn_app (goodIn_of _ (by decide +kernel)) ggX0_loseCar_X0_waitsFor
theorem dX0_loseCar_0 : decode cX0_loseCar 0 = .ok (.iconst 0, 1) := by decide +kernel
theorem dX0_loseCar_1 : decode cX0_loseCar 1 = .ok (.istore 4, 2) := by decide +kernel
theorem dX0_loseCar_3 : decode cX0_loseCar 3 = .ok (.iload 4, 2) := by decide +kernel
theorem dX0_loseCar_5 : decode cX0_loseCar 5 = .ok (.aload_n 0, 1) := by decide +kernel
theorem dX0_loseCar_6 : decode cX0_loseCar 6 = .ok (.getfield 36, 3) := by decide +kernel
theorem dX0_loseCar_9 : decode cX0_loseCar 9 = .ok (.if_icmp .ge 101, 3) := by decide +kernel
theorem dX0_loseCar_12 : decode cX0_loseCar 12 = .ok (.aload_n 0, 1) := by decide +kernel
theorem dX0_loseCar_13 : decode cX0_loseCar 13 = .ok (.iload 4, 2) := by decide +kernel
theorem dX0_loseCar_15 : decode cX0_loseCar 15 = .ok (.iload_n 1, 1) := by decide +kernel
theorem dX0_loseCar_16 : decode cX0_loseCar 16 = .ok (.invokevirtual 58, 3) := by decide +kernel
theorem dX0_loseCar_19 : decode cX0_loseCar 19 = .ok (.istore 5, 2) := by decide +kernel
theorem dX0_loseCar_21 : decode cX0_loseCar 21 = .ok (.iload 5, 2) := by decide +kernel
theorem dX0_loseCar_23 : decode cX0_loseCar 23 = .ok (.ifCond .ne 16, 3) := by decide +kernel
theorem dX0_loseCar_26 : decode cX0_loseCar 26 = .ok (.aload_n 0, 1) := by decide +kernel
theorem dX0_loseCar_27 : decode cX0_loseCar 27 = .ok (.iload 4, 2) := by decide +kernel
theorem dX0_loseCar_29 : decode cX0_loseCar 29 = .ok (.iload_n 1, 1) := by decide +kernel
theorem dX0_loseCar_30 : decode cX0_loseCar 30 = .ok (.invokevirtual 54, 3) := by decide +kernel
theorem dX0_loseCar_33 : decode cX0_loseCar 33 = .ok (.ifCond .ne 6, 3) := by decide +kernel
theorem dX0_loseCar_36 : decode cX0_loseCar 36 = .ok (.goto 68, 3) := by decide +kernel
theorem dX0_loseCar_39 : decode cX0_loseCar 39 = .ok (.iload 5, 2) := by decide +kernel
theorem dX0_loseCar_41 : decode cX0_loseCar 41 = .ok (.ifCond .eq 11, 3) := by decide +kernel
theorem dX0_loseCar_44 : decode cX0_loseCar 44 = .ok (.aload_n 0, 1) := by decide +kernel
theorem dX0_loseCar_45 : decode cX0_loseCar 45 = .ok (.getfield 9, 3) := by decide +kernel
theorem dX0_loseCar_48 : decode cX0_loseCar 48 = .ok (.iload 4, 2) := by decide +kernel
theorem dX0_loseCar_50 : decode cX0_loseCar 50 = .ok (.iload_n 2, 1) := by decide +kernel
theorem dX0_loseCar_51 : decode cX0_loseCar 51 = .ok (.iastore, 1) := by decide +kernel
theorem dX0_loseCar_52 : decode cX0_loseCar 52 = .ok (.iload 5, 2) := by decide +kernel
theorem dX0_loseCar_54 : decode cX0_loseCar 54 = .ok (.ifCond .eq 33, 3) := by decide +kernel
theorem dX0_loseCar_57 : decode cX0_loseCar 57 = .ok (.aload_n 0, 1) := by decide +kernel
theorem dX0_loseCar_58 : decode cX0_loseCar 58 = .ok (.getfield 15, 3) := by decide +kernel
theorem dX0_loseCar_61 : decode cX0_loseCar 61 = .ok (.iload 4, 2) := by decide +kernel
theorem dX0_loseCar_63 : decode cX0_loseCar 63 = .ok (.iaload, 1) := by decide +kernel
theorem dX0_loseCar_64 : decode cX0_loseCar 64 = .ok (.iload_n 2, 1) := by decide +kernel
theorem dX0_loseCar_65 : decode cX0_loseCar 65 = .ok (.if_icmp .ne 22, 3) := by decide +kernel
theorem dX0_loseCar_68 : decode cX0_loseCar 68 = .ok (.aload_n 0, 1) := by decide +kernel
theorem dX0_loseCar_69 : decode cX0_loseCar 69 = .ok (.getfield 18, 3) := by decide +kernel
theorem dX0_loseCar_72 : decode cX0_loseCar 72 = .ok (.iload 4, 2) := by decide +kernel
theorem dX0_loseCar_74 : decode cX0_loseCar 74 = .ok (.iconst 3, 1) := by decide +kernel
theorem dX0_loseCar_75 : decode cX0_loseCar 75 = .ok (.iastore, 1) := by decide +kernel
theorem dX0_loseCar_76 : decode cX0_loseCar 76 = .ok (.aload_n 0, 1) := by decide +kernel
theorem dX0_loseCar_77 : decode cX0_loseCar 77 = .ok (.getfield 30, 3) := by decide +kernel
theorem dX0_loseCar_80 : decode cX0_loseCar 80 = .ok (.iload 4, 2) := by decide +kernel
theorem dX0_loseCar_82 : decode cX0_loseCar 82 = .ok (.iload_n 3, 1) := by decide +kernel
theorem dX0_loseCar_83 : decode cX0_loseCar 83 = .ok (.iastore, 1) := by decide +kernel
theorem dX0_loseCar_84 : decode cX0_loseCar 84 = .ok (.goto 20, 3) := by decide +kernel
theorem dX0_loseCar_87 : decode cX0_loseCar 87 = .ok (.aload_n 0, 1) := by decide +kernel
theorem dX0_loseCar_88 : decode cX0_loseCar 88 = .ok (.getfield 18, 3) := by decide +kernel
theorem dX0_loseCar_91 : decode cX0_loseCar 91 = .ok (.iload 4, 2) := by decide +kernel
theorem dX0_loseCar_93 : decode cX0_loseCar 93 = .ok (.iconst 0, 1) := by decide +kernel
theorem dX0_loseCar_94 : decode cX0_loseCar 94 = .ok (.iastore, 1) := by decide +kernel
theorem dX0_loseCar_95 : decode cX0_loseCar 95 = .ok (.aload_n 0, 1) := by decide +kernel
theorem dX0_loseCar_96 : decode cX0_loseCar 96 = .ok (.getfield 21, 3) := by decide +kernel
theorem dX0_loseCar_99 : decode cX0_loseCar 99 = .ok (.iload 4, 2) := by decide +kernel
theorem dX0_loseCar_101 : decode cX0_loseCar 101 = .ok (.bipush (-9), 2) := by decide +kernel
theorem dX0_loseCar_103 : decode cX0_loseCar 103 = .ok (.iastore, 1) := by decide +kernel
theorem dX0_loseCar_104 : decode cX0_loseCar 104 = .ok (.iinc 4 1, 3) := by decide +kernel
theorem dX0_loseCar_107 : decode cX0_loseCar 107 = .ok (.goto (-104), 3) := by decide +kernel
theorem dX0_loseCar_110 : decode cX0_loseCar 110 = .ok (.return_, 1) := by decide +kernel
theorem dX0_isInGroup_0 : decode cX0_isInGroup 0 = .ok (.aload_n 0, 1) := by decide +kernel
theorem dX0_isInGroup_1 : decode cX0_isInGroup 1 = .ok (.getfield 18, 3) := by decide +kernel
theorem dX0_isInGroup_4 : decode cX0_isInGroup 4 = .ok (.iload_n 1, 1) := by decide +kernel
theorem dX0_isInGroup_5 : decode cX0_isInGroup 5 = .ok (.iaload, 1) := by decide +kernel
theorem dX0_isInGroup_6 : decode cX0_isInGroup 6 = .ok (.ifCond .eq 13, 3) := by decide +kernel
theorem dX0_isInGroup_9 : decode cX0_isInGroup 9 = .ok (.aload_n 0, 1) := by decide +kernel
theorem dX0_isInGroup_10 : decode cX0_isInGroup 10 = .ok (.getfield 18, 3) := by decide +kernel
theorem dX0_isInGroup_13 : decode cX0_isInGroup 13 = .ok (.iload_n 1, 1) := by decide +kernel
theorem dX0_isInGroup_14 : decode cX0_isInGroup 14 = .ok (.iaload, 1) := by decide +kernel
theorem dX0_isInGroup_15 : decode cX0_isInGroup 15 = .ok (.iconst 1, 1) := by decide +kernel
theorem dX0_isInGroup_16 : decode cX0_isInGroup 16 = .ok (.if_icmp .ne 7, 3) := by decide +kernel
theorem dX0_isInGroup_19 : decode cX0_isInGroup 19 = .ok (.iconst 1, 1) := by decide +kernel
theorem dX0_isInGroup_20 : decode cX0_isInGroup 20 = .ok (.goto 4, 3) := by decide +kernel
theorem dX0_isInGroup_23 : decode cX0_isInGroup 23 = .ok (.iconst 0, 1) := by decide +kernel
theorem dX0_isInGroup_24 : decode cX0_isInGroup 24 = .ok (.ireturn, 1) := by decide +kernel
set_option maxRecDepth 20000 in
theorem ggX0_sameGroup_X0_isInGroup : GoodIn wsX0_sameGroup wsX0_isInGroup := goodIn_r _ [7, 8, 9, 10, 11, 12, 13, 14, 15, 16, 17] (by decide +kernel) (by decide +kernel)
set_option maxRecDepth 20000 in
theorem gX0_sameGroup_X0_isInGroup : GoodIn wsX0_sameGroup (wsV RX0 71 RX0 yX0_isInGroup wsX0_isInGroup) := goodIn_app (goodIn_of _ (by decide +kernel)) ggX0_sameGroup_X0_isInGroup
theorem dX0_sameGroup_0 : decode cX0_sameGroup 0 = .ok (.aload_n 0, 1) := by decide +kernel
theorem dX0_sameGroup_1 : decode cX0_sameGroup 1 = .ok (.iload_n 1, 1) := by decide +kernel
theorem dX0_sameGroup_2 : decode cX0_sameGroup 2 = .ok (.invokevirtual 71, 3) := by decide +kernel
theorem dX0_sameGroup_5 : decode cX0_sameGroup 5 = .ok (.ifCond .eq 45, 3) := by decide +kernel
theorem dX0_sameGroup_8 : decode cX0_sameGroup 8 = .ok (.aload_n 0, 1) := by decide +kernel
theorem dX0_sameGroup_9 : decode cX0_sameGroup 9 = .ok (.iload_n 2, 1) := by decide +kernel
theorem dX0_sameGroup_10 : decode cX0_sameGroup 10 = .ok (.invokevirtual 71, 3) := by decide +kernel
theorem dX0_sameGroup_13 : decode cX0_sameGroup 13 = .ok (.ifCond .eq 37, 3) := by decide +kernel
theorem dX0_sameGroup_16 : decode cX0_sameGroup 16 = .ok (.aload_n 0, 1) := by decide +kernel
theorem dX0_sameGroup_17 : decode cX0_sameGroup 17 = .ok (.getfield 9, 3) := by decide +kernel
theorem dX0_sameGroup_20 : decode cX0_sameGroup 20 = .ok (.iload_n 1, 1) := by decide +kernel
theorem dX0_sameGroup_21 : decode cX0_sameGroup 21 = .ok (.iaload, 1) := by decide +kernel
theorem dX0_sameGroup_22 : decode cX0_sameGroup 22 = .ok (.aload_n 0, 1) := by decide +kernel
theorem dX0_sameGroup_23 : decode cX0_sameGroup 23 = .ok (.getfield 9, 3) := by decide +kernel
theorem dX0_sameGroup_26 : decode cX0_sameGroup 26 = .ok (.iload_n 2, 1) := by decide +kernel
theorem dX0_sameGroup_27 : decode cX0_sameGroup 27 = .ok (.iaload, 1) := by decide +kernel
theorem dX0_sameGroup_28 : decode cX0_sameGroup 28 = .ok (.if_icmp .ne 22, 3) := by decide +kernel
theorem dX0_sameGroup_31 : decode cX0_sameGroup 31 = .ok (.aload_n 0, 1) := by decide +kernel
theorem dX0_sameGroup_32 : decode cX0_sameGroup 32 = .ok (.getfield 15, 3) := by decide +kernel
theorem dX0_sameGroup_35 : decode cX0_sameGroup 35 = .ok (.iload_n 1, 1) := by decide +kernel
theorem dX0_sameGroup_36 : decode cX0_sameGroup 36 = .ok (.iaload, 1) := by decide +kernel
theorem dX0_sameGroup_37 : decode cX0_sameGroup 37 = .ok (.aload_n 0, 1) := by decide +kernel
theorem dX0_sameGroup_38 : decode cX0_sameGroup 38 = .ok (.getfield 15, 3) := by decide +kernel
theorem dX0_sameGroup_41 : decode cX0_sameGroup 41 = .ok (.iload_n 2, 1) := by decide +kernel
theorem dX0_sameGroup_42 : decode cX0_sameGroup 42 = .ok (.iaload, 1) := by decide +kernel
theorem dX0_sameGroup_43 : decode cX0_sameGroup 43 = .ok (.if_icmp .ne 7, 3) := by decide +kernel
theorem dX0_sameGroup_46 : decode cX0_sameGroup 46 = .ok (.iconst 1, 1) := by decide +kernel
theorem dX0_sameGroup_47 : decode cX0_sameGroup 47 = .ok (.goto 4, 3) := by decide +kernel
theorem dX0_sameGroup_50 : decode cX0_sameGroup 50 = .ok (.iconst 0, 1) := by decide +kernel
theorem dX0_sameGroup_51 : decode cX0_sameGroup 51 = .ok (.ireturn, 1) := by decide +kernel
set_option maxRecDepth 20000 in
theorem ggX0_isFirstOfGroup_X0_sameGroup : GoodIn wsX0_isFirstOfGroup wsX0_sameGroup := goodIn_r _ [5, 6, 7, 8, 9, 10, 4, 11, 12, 13, 14, 15, 16, 17, 18, 19, 20, 21] (by decide +kernel) (by decide +kernel)
set_option maxRecDepth 20000 in
theorem gX0_isFirstOfGroup_X0_sameGroup : GoodIn wsX0_isFirstOfGroup (wsV RX0 74 RX0 yX0_sameGroup wsX0_sameGroup) := goodIn_app (goodIn_of _ (by decide +kernel)) ggX0_isFirstOfGroup_X0_sameGroup
set_option maxRecDepth 20000 in
theorem ggX0_isFirstOfGroup_X0_isInGroup : GoodIn wsX0_isFirstOfGroup wsX0_isInGroup := goodIn_r _ [11, 12, 13, 14, 15, 16, 17, 18, 19, 20, 21] (by decide +kernel) (by decide +kernel)
set_option maxRecDepth 20000 in
theorem gX0_isFirstOfGroup_X0_isInGroup : GoodIn wsX0_isFirstOfGroup (wsV RX0 71 RX0 yX0_isInGroup wsX0_isInGroup) := goodIn_app (goodIn_of _ (by decide +kernel)) ggX0_isFirstOfGroup_X0_isInGroup
theorem dX0_isFirstOfGroup_0 : decode cX0_isFirstOfGroup 0 = .ok (.iconst 0, 1) := by decide +kernel
theorem dX0_isFirstOfGroup_1 : decode cX0_isFirstOfGroup 1 = .ok (.istore_n 2, 1) := by decide +kernel
theorem dX0_isFirstOfGroup_2 : decode cX0_isFirstOfGroup 2 = .ok (.iload_n 2, 1) := by decide +kernel
theorem dX0_isFirstOfGroup_3 : decode cX0_isFirstOfGroup 3 = .ok (.iload_n 1, 1) := by decide +kernel
theorem dX0_isFirstOfGroup_4 : decode cX0_isFirstOfGroup 4 = .ok (.if_icmp .ge 20, 3) := by decide +kernel
theorem dX0_isFirstOfGroup_7 : decode cX0_isFirstOfGroup 7 = .ok (.aload_n 0, 1) := by decide +kernel
theorem dX0_isFirstOfGroup_8 : decode cX0_isFirstOfGroup 8 = .ok (.iload_n 2, 1) := by decide +kernel
theorem dX0_isFirstOfGroup_9 : decode cX0_isFirstOfGroup 9 = .ok (.iload_n 1, 1) := by decide +kernel
theorem dX0_isFirstOfGroup_10 : decode cX0_isFirstOfGroup 10 = .ok (.invokevirtual 74, 3) := by decide +kernel
theorem dX0_isFirstOfGroup_13 : decode cX0_isFirstOfGroup 13 = .ok (.ifCond .eq 5, 3) := by decide +kernel
theorem dX0_isFirstOfGroup_16 : decode cX0_isFirstOfGroup 16 = .ok (.iconst 0, 1) := by decide +kernel
theorem dX0_isFirstOfGroup_17 : decode cX0_isFirstOfGroup 17 = .ok (.ireturn, 1) := by decide +kernel
theorem dX0_isFirstOfGroup_18 : decode cX0_isFirstOfGroup 18 = .ok (.iinc 2 1, 3) := by decide +kernel
theorem dX0_isFirstOfGroup_21 : decode cX0_isFirstOfGroup 21 = .ok (.goto (-19), 3) := by decide +kernel
theorem dX0_isFirstOfGroup_24 : decode cX0_isFirstOfGroup 24 = .ok (.aload_n 0, 1) := by decide +kernel
theorem dX0_isFirstOfGroup_25 : decode cX0_isFirstOfGroup 25 = .ok (.iload_n 1, 1) := by decide +kernel
theorem dX0_isFirstOfGroup_26 : decode cX0_isFirstOfGroup 26 = .ok (.invokevirtual 71, 3) := by decide +kernel
theorem dX0_isFirstOfGroup_29 : decode cX0_isFirstOfGroup 29 = .ok (.ireturn, 1) := by decide +kernel
set_option maxRecDepth 20000 in
theorem ggX0_numberOfGroups_X0_isFirstOfGroup : GoodIn wsX0_numberOfGroups wsX0_isFirstOfGroup := goodIn_r _ [6, 7, 8, 9, 5, 10, 11, 12, 13, 14, 15, 16, 17, 18, 19, 20, 21, 22, 23, 24, 25, 26] (by decide +kernel) (by decide +kernel)
set_option maxRecDepth 20000 in
theorem gX0_numberOfGroups_X0_isFirstOfGroup : GoodIn wsX0_numberOfGroups (wsV RX0 77 RX0 yX0_isFirstOfGroup wsX0_isFirstOfGroup) := goodIn_app (goodIn_of _ (by decide +kernel)) ggX0_numberOfGroups_X0_isFirstOfGroup
theorem dX0_numberOfGroups_0 : decode cX0_numberOfGroups 0 = .ok (.iconst 0, 1) := by decide +kernel
theorem dX0_numberOfGroups_1 : decode cX0_numberOfGroups 1 = .ok (.istore_n 1, 1) := by decide +kernel
theorem dX0_numberOfGroups_2 : decode cX0_numberOfGroups 2 = .ok (.iconst 0, 1) := by decide +kernel
theorem dX0_numberOfGroups_3 : decode cX0_numberOfGroups 3 = .ok (.istore_n 2, 1) := by decide +kernel
theorem dX0_numberOfGroups_4 : decode cX0_numberOfGroups 4 = .ok (.iload_n 2, 1) := by decide +kernel
theorem dX0_numberOfGroups_5 : decode cX0_numberOfGroups 5 = .ok (.aload_n 0, 1) := by decide +kernel
theorem dX0_numberOfGroups_6 : decode cX0_numberOfGroups 6 = .ok (.getfield 36, 3) := by decide +kernel
theorem dX0_numberOfGroups_9 : decode cX0_numberOfGroups 9 = .ok (.if_icmp .ge 20, 3) := by decide +kernel
theorem dX0_numberOfGroups_12 : decode cX0_numberOfGroups 12 = .ok (.aload_n 0, 1) := by decide +kernel
theorem dX0_numberOfGroups_13 : decode cX0_numberOfGroups 13 = .ok (.iload_n 2, 1) := by decide +kernel
theorem dX0_numberOfGroups_14 : decode cX0_numberOfGroups 14 = .ok (.invokevirtual 77, 3) := by decide +kernel
theorem dX0_numberOfGroups_17 : decode cX0_numberOfGroups 17 = .ok (.ifCond .eq 6, 3) := by decide +kernel
theorem dX0_numberOfGroups_20 : decode cX0_numberOfGroups 20 = .ok (.iinc 1 1, 3) := by decide +kernel
theorem dX0_numberOfGroups_23 : decode cX0_numberOfGroups 23 = .ok (.iinc 2 1, 3) := by decide +kernel
theorem dX0_numberOfGroups_26 : decode cX0_numberOfGroups 26 = .ok (.goto (-22), 3) := by decide +kernel
theorem dX0_numberOfGroups_29 : decode cX0_numberOfGroups 29 = .ok (.iload_n 1, 1) := by decide +kernel
theorem dX0_numberOfGroups_30 : decode cX0_numberOfGroups 30 = .ok (.ireturn, 1) := by decide +kernel
set_option maxRecDepth 20000 in
theorem ggX0_firstOfGroup_X0_isFirstOfGroup : GoodIn wsX0_firstOfGroup wsX0_isFirstOfGroup := goodIn_r _ [6, 7, 8, 9, 5, 10, 11, 12, 13, 14, 15, 16, 17, 18, 19, 20, 21, 22, 23, 24, 25, 26] (by decide +kernel) (by decide +kernel)
set_option maxRecDepth 20000 in
theorem gX0_firstOfGroup_X0_isFirstOfGroup : GoodIn wsX0_firstOfGroup (wsV RX0 77 RX0 yX0_isFirstOfGroup wsX0_isFirstOfGroup) := goodIn_app (goodIn_of _ (by decide +kernel)) ggX0_firstOfGroup_X0_isFirstOfGroup
theorem dX0_firstOfGroup_0 : decode cX0_firstOfGroup 0 = .ok (.iconst 0, 1) := by decide +kernel
theorem dX0_firstOfGroup_1 : decode cX0_firstOfGroup 1 = .ok (.istore_n 2, 1) := by decide +kernel
theorem dX0_firstOfGroup_2 : decode cX0_firstOfGroup 2 = .ok (.iconst 0, 1) := by decide +kernel
theorem dX0_firstOfGroup_3 : decode cX0_firstOfGroup 3 = .ok (.istore_n 3, 1) := by decide +kernel
theorem dX0_firstOfGroup_4 : decode cX0_firstOfGroup 4 = .ok (.iload_n 3, 1) := by decide +kernel
theorem dX0_firstOfGroup_5 : decode cX0_firstOfGroup 5 = .ok (.aload_n 0, 1) := by decide +kernel
theorem dX0_firstOfGroup_6 : decode cX0_firstOfGroup 6 = .ok (.getfield 36, 3) := by decide +kernel
theorem dX0_firstOfGroup_9 : decode cX0_firstOfGroup 9 = .ok (.if_icmp .ge 30, 3) := by decide +kernel
theorem dX0_firstOfGroup_12 : decode cX0_firstOfGroup 12 = .ok (.aload_n 0, 1) := by decide +kernel
theorem dX0_firstOfGroup_13 : decode cX0_firstOfGroup 13 = .ok (.iload_n 3, 1) := by decide +kernel
theorem dX0_firstOfGroup_14 : decode cX0_firstOfGroup 14 = .ok (.invokevirtual 77, 3) := by decide +kernel
theorem dX0_firstOfGroup_17 : decode cX0_firstOfGroup 17 = .ok (.ifCond .ne 6, 3) := by decide +kernel
theorem dX0_firstOfGroup_20 : decode cX0_firstOfGroup 20 = .ok (.goto 13, 3) := by decide +kernel
theorem dX0_firstOfGroup_23 : decode cX0_firstOfGroup 23 = .ok (.iload_n 2, 1) := by decide +kernel
theorem dX0_firstOfGroup_24 : decode cX0_firstOfGroup 24 = .ok (.iload_n 1, 1) := by decide +kernel
theorem dX0_firstOfGroup_25 : decode cX0_firstOfGroup 25 = .ok (.if_icmp .ne 5, 3) := by decide +kernel
theorem dX0_firstOfGroup_28 : decode cX0_firstOfGroup 28 = .ok (.iload_n 3, 1) := by decide +kernel
theorem dX0_firstOfGroup_29 : decode cX0_firstOfGroup 29 = .ok (.ireturn, 1) := by decide +kernel
theorem dX0_firstOfGroup_30 : decode cX0_firstOfGroup 30 = .ok (.iinc 2 1, 3) := by decide +kernel
theorem dX0_firstOfGroup_33 : decode cX0_firstOfGroup 33 = .ok (.iinc 3 1, 3) := by decide +kernel
theorem dX0_firstOfGroup_36 : decode cX0_firstOfGroup 36 = .ok (.goto (-32), 3) := by decide +kernel
theorem dX0_firstOfGroup_39 : decode cX0_firstOfGroup 39 = .ok (.bipush (-9), 2) := by decide +kernel
theorem dX0_firstOfGroup_41 : decode cX0_firstOfGroup 41 = .ok (.ireturn, 1) := by decide +kernel
set_option maxRecDepth 20000 in
theorem ggX0_sizeOfGroup_X0_sameGroup : GoodIn wsX0_sizeOfGroup wsX0_sameGroup := goodIn_r _ [6, 7, 8, 9, 10, 11, 5, 12, 13, 14, 15, 16, 17, 18, 19, 20, 21, 22] (by decide +kernel) (by decide +kernel)
set_option maxRecDepth 20000 in
theorem gX0_sizeOfGroup_X0_sameGroup : GoodIn wsX0_sizeOfGroup (wsV RX0 74 RX0 yX0_sameGroup wsX0_sameGroup) := goodIn_app (goodIn_of _ (by decide +kernel)) ggX0_sizeOfGroup_X0_sameGroup
theorem dX0_sizeOfGroup_0 : decode cX0_sizeOfGroup 0 = .ok (.iconst 0, 1) := by decide +kernel
theorem dX0_sizeOfGroup_1 : decode cX0_sizeOfGroup 1 = .ok (.istore_n 2, 1) := by decide +kernel
theorem dX0_sizeOfGroup_2 : decode cX0_sizeOfGroup 2 = .ok (.iconst 0, 1) := by decide +kernel
theorem dX0_sizeOfGroup_3 : decode cX0_sizeOfGroup 3 = .ok (.istore_n 3, 1) := by decide +kernel
theorem dX0_sizeOfGroup_4 : decode cX0_sizeOfGroup 4 = .ok (.iload_n 3, 1) := by decide +kernel
theorem dX0_sizeOfGroup_5 : decode cX0_sizeOfGroup 5 = .ok (.aload_n 0, 1) := by decide +kernel
theorem dX0_sizeOfGroup_6 : decode cX0_sizeOfGroup 6 = .ok (.getfield 36, 3) := by decide +kernel
theorem dX0_sizeOfGroup_9 : decode cX0_sizeOfGroup 9 = .ok (.if_icmp .ge 21, 3) := by decide +kernel
theorem dX0_sizeOfGroup_12 : decode cX0_sizeOfGroup 12 = .ok (.aload_n 0, 1) := by decide +kernel
theorem dX0_sizeOfGroup_13 : decode cX0_sizeOfGroup 13 = .ok (.iload_n 1, 1) := by decide +kernel
theorem dX0_sizeOfGroup_14 : decode cX0_sizeOfGroup 14 = .ok (.iload_n 3, 1) := by decide +kernel
theorem dX0_sizeOfGroup_15 : decode cX0_sizeOfGroup 15 = .ok (.invokevirtual 74, 3) := by decide +kernel
theorem dX0_sizeOfGroup_18 : decode cX0_sizeOfGroup 18 = .ok (.ifCond .eq 6, 3) := by decide +kernel
theorem dX0_sizeOfGroup_21 : decode cX0_sizeOfGroup 21 = .ok (.iinc 2 1, 3) := by decide +kernel
theorem dX0_sizeOfGroup_24 : decode cX0_sizeOfGroup 24 = .ok (.iinc 3 1, 3) := by decide +kernel
theorem dX0_sizeOfGroup_27 : decode cX0_sizeOfGroup 27 = .ok (.goto (-23), 3) := by decide +kernel
theorem dX0_sizeOfGroup_30 : decode cX0_sizeOfGroup 30 = .ok (.iload_n 2, 1) := by decide +kernel
theorem dX0_sizeOfGroup_31 : decode cX0_sizeOfGroup 31 = .ok (.ireturn, 1) := by decide +kernel
end
section
theorem dX1_init_0 : decode cX1_init 0 = .ok (.aload_n 0, 1) := by decide +kernel
theorem dX1_init_1 : decode cX1_init 1 = .ok (.invokespecial 3, 3) := by decide +kernel
theorem dX1_init_4 : decode cX1_init 4 = .ok (.aload_n 0, 1) := by decide +kernel
theorem dX1_init_5 : decode cX1_init 5 = .ok (.iconst 5, 1) := by decide +kernel
theorem dX1_init_6 : decode cX1_init 6 = .ok (.newarray .int, 2) := by decide +kernel
theorem dX1_init_8 : decode cX1_init 8 = .ok (.putfield 9, 3) := by decide +kernel
theorem dX1_init_11 : decode cX1_init 11 = .ok (.aload_n 0, 1) := by decide +kernel
theorem dX1_init_12 : decode cX1_init 12 = .ok (.iconst 5, 1) := by decide +kernel
theorem dX1_init_13 : decode cX1_init 13 = .ok (.newarray .int, 2) := by decide +kernel
theorem dX1_init_15 : decode cX1_init 15 = .ok (.putfield 15, 3) := by decide +kernel
theorem dX1_init_18 : decode cX1_init 18 = .ok (.aload_n 0, 1) := by decide +kernel
theorem dX1_init_19 : decode cX1_init 19 = .ok (.iconst 5, 1) := by decide +kernel
theorem dX1_init_20 : decode cX1_init 20 = .ok (.newarray .int, 2) := by decide +kernel
theorem dX1_init_22 : decode cX1_init 22 = .ok (.putfield 18, 3) := by decide +kernel
theorem dX1_init_25 : decode cX1_init 25 = .ok (.aload_n 0, 1) := by decide +kernel
theorem dX1_init_26 : decode cX1_init 26 = .ok (.iconst 5, 1) := by decide +kernel
theorem dX1_init_27 : decode cX1_init 27 = .ok (.newarray .int, 2) := by decide +kernel
theorem dX1_init_29 : decode cX1_init 29 = .ok (.putfield 21, 3) := by decide +kernel
theorem dX1_init_32 : decode cX1_init 32 = .ok (.aload_n 0, 1) := by decide +kernel
theorem dX1_init_33 : decode cX1_init 33 = .ok (.iconst 5, 1) := by decide +kernel
theorem dX1_init_34 : decode cX1_init 34 = .ok (.newarray .int, 2) := by decide +kernel
theorem dX1_init_36 : decode cX1_init 36 = .ok (.putfield 24, 3) := by decide +kernel
theorem dX1_init_39 : decode cX1_init 39 = .ok (.aload_n 0, 1) := by decide +kernel
theorem dX1_init_40 : decode cX1_init 40 = .ok (.iconst 5, 1) := by decide +kernel
theorem dX1_init_41 : decode cX1_init 41 = .ok (.newarray .int, 2) := by decide +kernel
theorem dX1_init_43 : decode cX1_init 43 = .ok (.putfield 27, 3) := by decide +kernel
theorem dX1_init_46 : decode cX1_init 46 = .ok (.return_, 1) := by decide +kernel
theorem dX1_copyFrom_0 : decode cX1_copyFrom 0 = .ok (.aload_n 0, 1) := by decide +kernel
theorem dX1_copyFrom_1 : decode cX1_copyFrom 1 = .ok (.aload_n 1, 1) := by decide +kernel
theorem dX1_copyFrom_2 : decode cX1_copyFrom 2 = .ok (.getfield 30, 3) := by decide +kernel
theorem dX1_copyFrom_5 : decode cX1_copyFrom 5 = .ok (.putfield 30, 3) := by decide +kernel
theorem dX1_copyFrom_8 : decode cX1_copyFrom 8 = .ok (.aload_n 0, 1) := by decide +kernel
theorem dX1_copyFrom_9 : decode cX1_copyFrom 9 = .ok (.aload_n 1, 1) := by decide +kernel
theorem dX1_copyFrom_10 : decode cX1_copyFrom 10 = .ok (.getfield 34, 3) := by decide +kernel
theorem dX1_copyFrom_13 : decode cX1_copyFrom 13 = .ok (.putfield 34, 3) := by decide +kernel
theorem dX1_copyFrom_16 : decode cX1_copyFrom 16 = .ok (.aload_n 1, 1) := by decide +kernel
theorem dX1_copyFrom_17 : decode cX1_copyFrom 17 = .ok (.getfield 9, 3) := by decide +kernel
theorem dX1_copyFrom_20 : decode cX1_copyFrom 20 = .ok (.iconst 0, 1) := by decide +kernel
theorem dX1_copyFrom_21 : decode cX1_copyFrom 21 = .ok (.aload_n 0, 1) := by decide +kernel
theorem dX1_copyFrom_22 : decode cX1_copyFrom 22 = .ok (.getfield 9, 3) := by decide +kernel
theorem dX1_copyFrom_25 : decode cX1_copyFrom 25 = .ok (.iconst 0, 1) := by decide +kernel
theorem dX1_copyFrom_26 : decode cX1_copyFrom 26 = .ok (.iconst 5, 1) := by decide +kernel
theorem dX1_copyFrom_27 : decode cX1_copyFrom 27 = .ok (.invokestatic 37, 3) := by decide +kernel
theorem dX1_copyFrom_30 : decode cX1_copyFrom 30 = .ok (.aload_n 1, 1) := by decide +kernel
theorem dX1_copyFrom_31 : decode cX1_copyFrom 31 = .ok (.getfield 15, 3) := by decide +kernel
theorem dX1_copyFrom_34 : decode cX1_copyFrom 34 = .ok (.iconst 0, 1) := by decide +kernel
theorem dX1_copyFrom_35 : decode cX1_copyFrom 35 = .ok (.aload_n 0, 1) := by decide +kernel
theorem dX1_copyFrom_36 : decode cX1_copyFrom 36 = .ok (.getfield 15, 3) := by decide +kernel
theorem dX1_copyFrom_39 : decode cX1_copyFrom 39 = .ok (.iconst 0, 1) := by decide +kernel
theorem dX1_copyFrom_40 : decode cX1_copyFrom 40 = .ok (.iconst 5, 1) := by decide +kernel
theorem dX1_copyFrom_41 : decode cX1_copyFrom 41 = .ok (.invokestatic 37, 3) := by decide +kernel
theorem dX1_copyFrom_44 : decode cX1_copyFrom 44 = .ok (.aload_n 1, 1) := by decide +kernel
theorem dX1_copyFrom_45 : decode cX1_copyFrom 45 = .ok (.getfield 18, 3) := by decide +kernel
theorem dX1_copyFrom_48 : decode cX1_copyFrom 48 = .ok (.iconst 0, 1) := by decide +kernel
theorem dX1_copyFrom_49 : decode cX1_copyFrom 49 = .ok (.aload_n 0, 1) := by decide +kernel
theorem dX1_copyFrom_50 : decode cX1_copyFrom 50 = .ok (.getfield 18, 3) := by decide +kernel
theorem dX1_copyFrom_53 : decode cX1_copyFrom 53 = .ok (.iconst 0, 1) := by decide +kernel
theorem dX1_copyFrom_54 : decode cX1_copyFrom 54 = .ok (.iconst 5, 1) := by decide +kernel
theorem dX1_copyFrom_55 : decode cX1_copyFrom 55 = .ok (.invokestatic 37, 3) := by decide +kernel
theorem dX1_copyFrom_58 : decode cX1_copyFrom 58 = .ok (.aload_n 1, 1) := by decide +kernel
theorem dX1_copyFrom_59 : decode cX1_copyFrom 59 = .ok (.getfield 21, 3) := by decide +kernel
theorem dX1_copyFrom_62 : decode cX1_copyFrom 62 = .ok (.iconst 0, 1) := by decide +kernel
theorem dX1_copyFrom_63 : decode cX1_copyFrom 63 = .ok (.aload_n 0, 1) := by decide +kernel
theorem dX1_copyFrom_64 : decode cX1_copyFrom 64 = .ok (.getfield 21, 3) := by decide +kernel
theorem dX1_copyFrom_67 : decode cX1_copyFrom 67 = .ok (.iconst 0, 1) := by decide +kernel
theorem dX1_copyFrom_68 : decode cX1_copyFrom 68 = .ok (.iconst 5, 1) := by decide +kernel
theorem dX1_copyFrom_69 : decode cX1_copyFrom 69 = .ok (.invokestatic 37, 3) := by decide +kernel
theorem dX1_copyFrom_72 : decode cX1_copyFrom 72 = .ok (.aload_n 1, 1) := by decide +kernel
theorem dX1_copyFrom_73 : decode cX1_copyFrom 73 = .ok (.getfield 24, 3) := by decide +kernel
theorem dX1_copyFrom_76 : decode cX1_copyFrom 76 = .ok (.iconst 0, 1) := by decide +kernel
theorem dX1_copyFrom_77 : decode cX1_copyFrom 77 = .ok (.aload_n 0, 1) := by decide +kernel
theorem dX1_copyFrom_78 : decode cX1_copyFrom 78 = .ok (.getfield 24, 3) := by decide +kernel
theorem dX1_copyFrom_81 : decode cX1_copyFrom 81 = .ok (.iconst 0, 1) := by decide +kernel
theorem dX1_copyFrom_82 : decode cX1_copyFrom 82 = .ok (.iconst 5, 1) := by decide +kernel
theorem dX1_copyFrom_83 : decode cX1_copyFrom 83 = .ok (.invokestatic 37, 3) := by decide +kernel
theorem dX1_copyFrom_86 : decode cX1_copyFrom 86 = .ok (.aload_n 1, 1) := by decide +kernel
theorem dX1_copyFrom_87 : decode cX1_copyFrom 87 = .ok (.getfield 27, 3) := by decide +kernel
theorem dX1_copyFrom_90 : decode cX1_copyFrom 90 = .ok (.iconst 0, 1) := by decide +kernel
theorem dX1_copyFrom_91 : decode cX1_copyFrom 91 = .ok (.aload_n 0, 1) := by decide +kernel
theorem dX1_copyFrom_92 : decode cX1_copyFrom 92 = .ok (.getfield 27, 3) := by decide +kernel
theorem dX1_copyFrom_95 : decode cX1_copyFrom 95 = .ok (.iconst 0, 1) := by decide +kernel
theorem dX1_copyFrom_96 : decode cX1_copyFrom 96 = .ok (.iconst 5, 1) := by decide +kernel
theorem dX1_copyFrom_97 : decode cX1_copyFrom 97 = .ok (.invokestatic 37, 3) := by decide +kernel
theorem dX1_copyFrom_100 : decode cX1_copyFrom 100 = .ok (.return_, 1) := by decide +kernel
theorem dX1_has_0 : decode cX1_has 0 = .ok (.iload_n 1, 1) := by decide +kernel
theorem dX1_has_1 : decode cX1_has 1 = .ok (.ifCond .lt 15, 3) := by decide +kernel
theorem dX1_has_4 : decode cX1_has 4 = .ok (.iload_n 1, 1) := by decide +kernel
theorem dX1_has_5 : decode cX1_has 5 = .ok (.aload_n 0, 1) := by decide +kernel
theorem dX1_has_6 : decode cX1_has 6 = .ok (.getfield 30, 3) := by decide +kernel
theorem dX1_has_9 : decode cX1_has 9 = .ok (.if_icmp .ge 7, 3) := by decide +kernel
theorem dX1_has_12 : decode cX1_has 12 = .ok (.iconst 1, 1) := by decide +kernel
theorem dX1_has_13 : decode cX1_has 13 = .ok (.goto 4, 3) := by decide +kernel
theorem dX1_has_16 : decode cX1_has 16 = .ok (.iconst 0, 1) := by decide +kernel
theorem dX1_has_17 : decode cX1_has 17 = .ok (.ireturn, 1) := by decide +kernel
theorem dX1_add_0 : decode cX1_add 0 = .ok (.aload_n 0, 1) := by decide +kernel
theorem dX1_add_1 : decode cX1_add 1 = .ok (.getfield 30, 3) := by decide +kernel
theorem dX1_add_4 : decode cX1_add 4 = .ok (.istore 4, 2) := by decide +kernel
theorem dX1_add_6 : decode cX1_add 6 = .ok (.iload 4, 2) := by decide +kernel
theorem dX1_add_8 : decode cX1_add 8 = .ok (.iconst 5, 1) := by decide +kernel
theorem dX1_add_9 : decode cX1_add 9 = .ok (.if_icmp .lt 6, 3) := by decide +kernel
theorem dX1_add_12 : decode cX1_add 12 = .ok (.bipush (-9), 2) := by decide +kernel
theorem dX1_add_14 : decode cX1_add 14 = .ok (.ireturn, 1) := by decide +kernel
theorem dX1_add_15 : decode cX1_add 15 = .ok (.aload_n 0, 1) := by decide +kernel
theorem dX1_add_16 : decode cX1_add 16 = .ok (.getfield 9, 3) := by decide +kernel
theorem dX1_add_19 : decode cX1_add 19 = .ok (.iload 4, 2) := by decide +kernel
theorem dX1_add_21 : decode cX1_add 21 = .ok (.iload_n 1, 1) := by decide +kernel
theorem dX1_add_22 : decode cX1_add 22 = .ok (.iastore, 1) := by decide +kernel
theorem dX1_add_23 : decode cX1_add 23 = .ok (.aload_n 0, 1) := by decide +kernel
theorem dX1_add_24 : decode cX1_add 24 = .ok (.getfield 15, 3) := by decide +kernel
theorem dX1_add_27 : decode cX1_add 27 = .ok (.iload 4, 2) := by decide +kernel
theorem dX1_add_29 : decode cX1_add 29 = .ok (.iload_n 2, 1) := by decide +kernel
theorem dX1_add_30 : decode cX1_add 30 = .ok (.iastore, 1) := by decide +kernel
theorem dX1_add_31 : decode cX1_add 31 = .ok (.aload_n 0, 1) := by decide +kernel
theorem dX1_add_32 : decode cX1_add 32 = .ok (.getfield 18, 3) := by decide +kernel
theorem dX1_add_35 : decode cX1_add 35 = .ok (.iload 4, 2) := by decide +kernel
theorem dX1_add_37 : decode cX1_add 37 = .ok (.iload_n 3, 1) := by decide +kernel
theorem dX1_add_38 : decode cX1_add 38 = .ok (.iastore, 1) := by decide +kernel
theorem dX1_add_39 : decode cX1_add 39 = .ok (.aload_n 0, 1) := by decide +kernel
theorem dX1_add_40 : decode cX1_add 40 = .ok (.getfield 21, 3) := by decide +kernel
theorem dX1_add_43 : decode cX1_add 43 = .ok (.iload 4, 2) := by decide +kernel
theorem dX1_add_45 : decode cX1_add 45 = .ok (.iload_n 1, 1) := by decide +kernel
theorem dX1_add_46 : decode cX1_add 46 = .ok (.iastore, 1) := by decide +kernel
theorem dX1_add_47 : decode cX1_add 47 = .ok (.aload_n 0, 1) := by decide +kernel
theorem dX1_add_48 : decode cX1_add 48 = .ok (.getfield 24, 3) := by decide +kernel
theorem dX1_add_51 : decode cX1_add 51 = .ok (.iload 4, 2) := by decide +kernel
theorem dX1_add_53 : decode cX1_add 53 = .ok (.iconst 0, 1) := by decide +kernel
theorem dX1_add_54 : decode cX1_add 54 = .ok (.iastore, 1) := by decide +kernel
theorem dX1_add_55 : decode cX1_add 55 = .ok (.aload_n 0, 1) := by decide +kernel
theorem dX1_add_56 : decode cX1_add 56 = .ok (.getfield 27, 3) := by decide +kernel
theorem dX1_add_59 : decode cX1_add 59 = .ok (.iload 4, 2) := by decide +kernel
theorem dX1_add_61 : decode cX1_add 61 = .ok (.iconst 0, 1) := by decide +kernel
theorem dX1_add_62 : decode cX1_add 62 = .ok (.iastore, 1) := by decide +kernel
theorem dX1_add_63 : decode cX1_add 63 = .ok (.aload_n 0, 1) := by decide +kernel
theorem dX1_add_64 : decode cX1_add 64 = .ok (.iload 4, 2) := by decide +kernel
theorem dX1_add_66 : decode cX1_add 66 = .ok (.iconst 1, 1) := by decide +kernel
theorem dX1_add_67 : decode cX1_add 67 = .ok (.iadd, 1) := by decide +kernel
theorem dX1_add_68 : decode cX1_add 68 = .ok (.putfield 30, 3) := by decide +kernel
theorem dX1_add_71 : decode cX1_add 71 = .ok (.iload 4, 2) := by decide +kernel
theorem dX1_add_73 : decode cX1_add 73 = .ok (.ireturn, 1) := by decide +kernel
theorem dX1_serves_0 : decode cX1_serves 0 = .ok (.iload_n 2, 1) := by decide +kernel
theorem dX1_serves_1 : decode cX1_serves 1 = .ok (.aload_n 0, 1) := by decide +kernel
theorem dX1_serves_2 : decode cX1_serves 2 = .ok (.getfield 9, 3) := by decide +kernel
theorem dX1_serves_5 : decode cX1_serves 5 = .ok (.iload_n 1, 1) := by decide +kernel
theorem dX1_serves_6 : decode cX1_serves 6 = .ok (.iaload, 1) := by decide +kernel
theorem dX1_serves_7 : decode cX1_serves 7 = .ok (.if_icmp .lt 17, 3) := by decide +kernel
theorem dX1_serves_10 : decode cX1_serves 10 = .ok (.iload_n 2, 1) := by decide +kernel
theorem dX1_serves_11 : decode cX1_serves 11 = .ok (.aload_n 0, 1) := by decide +kernel
theorem dX1_serves_12 : decode cX1_serves 12 = .ok (.getfield 15, 3) := by decide +kernel
theorem dX1_serves_15 : decode cX1_serves 15 = .ok (.iload_n 1, 1) := by decide +kernel
theorem dX1_serves_16 : decode cX1_serves 16 = .ok (.iaload, 1) := by decide +kernel
theorem dX1_serves_17 : decode cX1_serves 17 = .ok (.if_icmp .gt 7, 3) := by decide +kernel
theorem dX1_serves_20 : decode cX1_serves 20 = .ok (.iconst 1, 1) := by decide +kernel
theorem dX1_serves_21 : decode cX1_serves 21 = .ok (.goto 4, 3) := by decide +kernel
theorem dX1_serves_24 : decode cX1_serves 24 = .ok (.iconst 0, 1) := by decide +kernel
theorem dX1_serves_25 : decode cX1_serves 25 = .ok (.ireturn, 1) := by decide +kernel
theorem dX1_travelTowards_0 : decode cX1_travelTowards 0 = .ok (.aload_n 0, 1) := by decide +kernel
theorem dX1_travelTowards_1 : decode cX1_travelTowards 1 = .ok (.getfield 21, 3) := by decide +kernel
theorem dX1_travelTowards_4 : decode cX1_travelTowards 4 = .ok (.iload_n 1, 1) := by decide +kernel
theorem dX1_travelTowards_5 : decode cX1_travelTowards 5 = .ok (.dup2, 1) := by decide +kernel
theorem dX1_travelTowards_6 : decode cX1_travelTowards 6 = .ok (.iaload, 1) := by decide +kernel
theorem dX1_travelTowards_7 : decode cX1_travelTowards 7 = .ok (.iload_n 2, 1) := by decide +kernel
theorem dX1_travelTowards_8 : decode cX1_travelTowards 8 = .ok (.aload_n 0, 1) := by decide +kernel
theorem dX1_travelTowards_9 : decode cX1_travelTowards 9 = .ok (.getfield 21, 3) := by decide +kernel
theorem dX1_travelTowards_12 : decode cX1_travelTowards 12 = .ok (.iload_n 1, 1) := by decide +kernel
theorem dX1_travelTowards_13 : decode cX1_travelTowards 13 = .ok (.iaload, 1) := by decide +kernel
theorem dX1_travelTowards_14 : decode cX1_travelTowards 14 = .ok (.if_icmp .le 7, 3) := by decide +kernel
theorem dX1_travelTowards_17 : decode cX1_travelTowards 17 = .ok (.iconst 1, 1) := by decide +kernel
theorem dX1_travelTowards_18 : decode cX1_travelTowards 18 = .ok (.goto 4, 3) := by decide +kernel
theorem dX1_travelTowards_21 : decode cX1_travelTowards 21 = .ok (.iconst (-1), 1) := by decide +kernel
theorem dX1_travelTowards_22 : decode cX1_travelTowards 22 = .ok (.iadd, 1) := by decide +kernel
theorem dX1_travelTowards_23 : decode cX1_travelTowards 23 = .ok (.iastore, 1) := by decide +kernel
theorem dX1_travelTowards_24 : decode cX1_travelTowards 24 = .ok (.aload_n 0, 1) := by decide +kernel
theorem dX1_travelTowards_25 : decode cX1_travelTowards 25 = .ok (.getfield 27, 3) := by decide +kernel
theorem dX1_travelTowards_28 : decode cX1_travelTowards 28 = .ok (.iload_n 1, 1) := by decide +kernel
theorem dX1_travelTowards_29 : decode cX1_travelTowards 29 = .ok (.dup2, 1) := by decide +kernel
theorem dX1_travelTowards_30 : decode cX1_travelTowards 30 = .ok (.iaload, 1) := by decide +kernel
theorem dX1_travelTowards_31 : decode cX1_travelTowards 31 = .ok (.iconst 1, 1) := by decide +kernel
theorem dX1_travelTowards_32 : decode cX1_travelTowards 32 = .ok (.iadd, 1) := by decide +kernel
theorem dX1_travelTowards_33 : decode cX1_travelTowards 33 = .ok (.iastore, 1) := by decide +kernel
theorem dX1_travelTowards_34 : decode cX1_travelTowards 34 = .ok (.return_, 1) := by decide +kernel
theorem dX1_numberIn_0 : decode cX1_numberIn 0 = .ok (.iconst 0, 1) := by decide +kernel
theorem dX1_numberIn_1 : decode cX1_numberIn 1 = .ok (.istore_n 2, 1) := by decide +kernel
theorem dX1_numberIn_2 : decode cX1_numberIn 2 = .ok (.iconst 0, 1) := by decide +kernel
theorem dX1_numberIn_3 : decode cX1_numberIn 3 = .ok (.istore_n 3, 1) := by decide +kernel
theorem dX1_numberIn_4 : decode cX1_numberIn 4 = .ok (.iload_n 3, 1) := by decide +kernel
theorem dX1_numberIn_5 : decode cX1_numberIn 5 = .ok (.aload_n 0, 1) := by decide +kernel
theorem dX1_numberIn_6 : decode cX1_numberIn 6 = .ok (.getfield 30, 3) := by decide +kernel
theorem dX1_numberIn_9 : decode cX1_numberIn 9 = .ok (.if_icmp .ge 22, 3) := by decide +kernel
theorem dX1_numberIn_12 : decode cX1_numberIn 12 = .ok (.aload_n 0, 1) := by decide +kernel
theorem dX1_numberIn_13 : decode cX1_numberIn 13 = .ok (.getfield 24, 3) := by decide +kernel
theorem dX1_numberIn_16 : decode cX1_numberIn 16 = .ok (.iload_n 3, 1) := by decide +kernel
theorem dX1_numberIn_17 : decode cX1_numberIn 17 = .ok (.iaload, 1) := by decide +kernel
theorem dX1_numberIn_18 : decode cX1_numberIn 18 = .ok (.iload_n 1, 1) := by decide +kernel
theorem dX1_numberIn_19 : decode cX1_numberIn 19 = .ok (.if_icmp .ne 6, 3) := by decide +kernel
theorem dX1_numberIn_22 : decode cX1_numberIn 22 = .ok (.iinc 2 1, 3) := by decide +kernel
theorem dX1_numberIn_25 : decode cX1_numberIn 25 = .ok (.iinc 3 1, 3) := by decide +kernel
theorem dX1_numberIn_28 : decode cX1_numberIn 28 = .ok (.goto (-24), 3) := by decide +kernel
theorem dX1_numberIn_31 : decode cX1_numberIn 31 = .ok (.iload_n 2, 1) := by decide +kernel
theorem dX1_numberIn_32 : decode cX1_numberIn 32 = .ok (.ireturn, 1) := by decide +kernel
theorem dX1_travelledByAll_0 : decode cX1_travelledByAll 0 = .ok (.iconst 0, 1) := by decide +kernel
theorem dX1_travelledByAll_1 : decode cX1_travelledByAll 1 = .ok (.istore_n 1, 1) := by decide +kernel
theorem dX1_travelledByAll_2 : decode cX1_travelledByAll 2 = .ok (.iconst 0, 1) := by decide +kernel
theorem dX1_travelledByAll_3 : decode cX1_travelledByAll 3 = .ok (.istore_n 2, 1) := by decide +kernel
theorem dX1_travelledByAll_4 : decode cX1_travelledByAll 4 = .ok (.iload_n 2, 1) := by decide +kernel
theorem dX1_travelledByAll_5 : decode cX1_travelledByAll 5 = .ok (.aload_n 0, 1) := by decide +kernel
theorem dX1_travelledByAll_6 : decode cX1_travelledByAll 6 = .ok (.getfield 30, 3) := by decide +kernel
theorem dX1_travelledByAll_9 : decode cX1_travelledByAll 9 = .ok (.if_icmp .ge 18, 3) := by decide +kernel
theorem dX1_travelledByAll_12 : decode cX1_travelledByAll 12 = .ok (.iload_n 1, 1) := by decide +kernel
theorem dX1_travelledByAll_13 : decode cX1_travelledByAll 13 = .ok (.aload_n 0, 1) := by decide +kernel
theorem dX1_travelledByAll_14 : decode cX1_travelledByAll 14 = .ok (.getfield 27, 3) := by decide +kernel
theorem dX1_travelledByAll_17 : decode cX1_travelledByAll 17 = .ok (.iload_n 2, 1) := by decide +kernel
theorem dX1_travelledByAll_18 : decode cX1_travelledByAll 18 = .ok (.iaload, 1) := by decide +kernel
theorem dX1_travelledByAll_19 : decode cX1_travelledByAll 19 = .ok (.iadd, 1) := by decide +kernel
theorem dX1_travelledByAll_20 : decode cX1_travelledByAll 20 = .ok (.istore_n 1, 1) := by decide +kernel
theorem dX1_travelledByAll_21 : decode cX1_travelledByAll 21 = .ok (.iinc 2 1, 3) := by decide +kernel
theorem dX1_travelledByAll_24 : decode cX1_travelledByAll 24 = .ok (.goto (-20), 3) := by decide +kernel
theorem dX1_travelledByAll_27 : decode cX1_travelledByAll 27 = .ok (.iload_n 1, 1) := by decide +kernel
theorem dX1_travelledByAll_28 : decode cX1_travelledByAll 28 = .ok (.ireturn, 1) := by decide +kernel
set_option maxRecDepth 20000 in
theorem ggX2_init_X3_init : GoodIn wsX2_init wsX3_init := goodIn_r _ [10, 11, 2, 3, 12, 13, 14, 15, 16, 17, 18, 19, 20, 21, 22, 23, 24, 25, 26, 27, 28, 29, 30, 31, 32, 33, 34, 35, 36, 37, 38, 39, 40, 41, 45, 46, 47, 48, 49, 50, 51, 52, 53, 54, 55, 56, 57, 58, 59, 60, 61, 62, 63, 64, 65] (by decide +kernel) (by decide +kernel)
set_option maxRecDepth 20000 in
theorem gX2_init_X3_init : GoodIn wsX2_init (wsX3_init) := ggX2_init_X3_init
theorem dX2_init_0 : decode cX2_init 0 = .ok (.aload_n 0, 1) := by decide +kernel
theorem dX2_init_1 : decode cX2_init 1 = .ok (.invokespecial 3, 3) := by decide +kernel
theorem dX2_init_4 : decode cX2_init 4 = .ok (.aload_n 0, 1) := by decide +kernel
theorem dX2_init_5 : decode cX2_init 5 = .ok (.iconst 5, 1) := by decide +kernel
theorem dX2_init_6 : decode cX2_init 6 = .ok (.anewarray 9, 3) := by decide +kernel
theorem dX2_init_9 : decode cX2_init 9 = .ok (.putfield 11, 3) := by decide +kernel
theorem dX2_init_12 : decode cX2_init 12 = .ok (.iconst 0, 1) := by decide +kernel
theorem dX2_init_13 : decode cX2_init 13 = .ok (.istore_n 1, 1) := by decide +kernel
theorem dX2_init_14 : decode cX2_init 14 = .ok (.iload_n 1, 1) := by decide +kernel
theorem dX2_init_15 : decode cX2_init 15 = .ok (.iconst 5, 1) := by decide +kernel
theorem dX2_init_16 : decode cX2_init 16 = .ok (.if_icmp .ge 22, 3) := by decide +kernel
theorem dX2_init_19 : decode cX2_init 19 = .ok (.aload_n 0, 1) := by decide +kernel
theorem dX2_init_20 : decode cX2_init 20 = .ok (.getfield 11, 3) := by decide +kernel
theorem dX2_init_23 : decode cX2_init 23 = .ok (.iload_n 1, 1) := by decide +kernel
theorem dX2_init_24 : decode cX2_init 24 = .ok (.new 9, 3) := by decide +kernel
theorem dX2_init_27 : decode cX2_init 27 = .ok (.dup, 1) := by decide +kernel
theorem dX2_init_28 : decode cX2_init 28 = .ok (.invokespecial 17, 3) := by decide +kernel
theorem dX2_init_31 : decode cX2_init 31 = .ok (.aastore, 1) := by decide +kernel
theorem dX2_init_32 : decode cX2_init 32 = .ok (.iinc 1 1, 3) := by decide +kernel
theorem dX2_init_35 : decode cX2_init 35 = .ok (.goto (-21), 3) := by decide +kernel
theorem dX2_init_38 : decode cX2_init 38 = .ok (.return_, 1) := by decide +kernel
set_option maxRecDepth 20000 in
theorem ggX2_keep_X3_copyFrom : GoodIn wsX2_keep wsX3_copyFrom := goodIn_r _ [12, 13, 14, 15, 16, 17, 18, 19, 20, 21, 22, 23, 24, 25, 26, 27, 28, 29, 30, 31, 32, 33, 34, 35, 36, 37, 38, 39, 40, 41, 42, 43, 44, 45, 46, 47, 48, 49, 57, 58, 59, 60, 61, 62, 63, 64, 65, 66, 67, 68, 69, 70, 71, 72, 73, 74, 75, 76, 77] (by decide +kernel) (by decide +kernel)
set_option maxRecDepth 20000 in
theorem gX2_keep_X3_copyFrom : GoodIn wsX2_keep (wsV RX2 22 RX3 yX3_copyFrom wsX3_copyFrom) := goodIn_app (goodIn_of _ (by decide +kernel)) ggX2_keep_X3_copyFrom
set_option maxRecDepth 20000 in
theorem ggX2_keep_J9_floorMod_7cf53 : GoodIn wsX2_keep wsJ9_floorMod_7cf53 := goodIn_r _ [53] (by decide +kernel) (by decide +kernel)
set_option maxRecDepth 20000 in
theorem gX2_keep_J9_floorMod_7cf53 : GoodIn wsX2_keep (va_wsS RX2 26 yJ9_floorMod_7cf53 wsJ9_floorMod_7cf53) := goodIn_app (goodIn_of _ (by decide +kernel)) ggX2_keep_J9_floorMod_7cf53
theorem dX2_keep_0 : decode cX2_keep 0 = .ok (.aload_n 0, 1) := by decide +kernel
theorem dX2_keep_1 : decode cX2_keep 1 = .ok (.getfield 11, 3) := by decide +kernel
theorem dX2_keep_4 : decode cX2_keep 4 = .ok (.aload_n 0, 1) := by decide +kernel
theorem dX2_keep_5 : decode cX2_keep 5 = .ok (.getfield 18, 3) := by decide +kernel
theorem dX2_keep_8 : decode cX2_keep 8 = .ok (.aaload, 1) := by decide +kernel
theorem dX2_keep_9 : decode cX2_keep 9 = .ok (.astore_n 2, 1) := by decide +kernel
theorem dX2_keep_10 : decode cX2_keep 10 = .ok (.aload_n 2, 1) := by decide +kernel
theorem dX2_keep_11 : decode cX2_keep 11 = .ok (.ifnonnull 4, 3) := by decide +kernel
theorem dX2_keep_14 : decode cX2_keep 14 = .ok (.return_, 1) := by decide +kernel
theorem dX2_keep_15 : decode cX2_keep 15 = .ok (.aload_n 2, 1) := by decide +kernel
theorem dX2_keep_16 : decode cX2_keep 16 = .ok (.aload_n 1, 1) := by decide +kernel
theorem dX2_keep_17 : decode cX2_keep 17 = .ok (.invokevirtual 22, 3) := by decide +kernel
theorem dX2_keep_20 : decode cX2_keep 20 = .ok (.aload_n 0, 1) := by decide +kernel
theorem dX2_keep_21 : decode cX2_keep 21 = .ok (.aload_n 0, 1) := by decide +kernel
theorem dX2_keep_22 : decode cX2_keep 22 = .ok (.getfield 18, 3) := by decide +kernel
theorem dX2_keep_25 : decode cX2_keep 25 = .ok (.iconst 1, 1) := by decide +kernel
theorem dX2_keep_26 : decode cX2_keep 26 = .ok (.iadd, 1) := by decide +kernel
theorem dX2_keep_27 : decode cX2_keep 27 = .ok (.iconst 5, 1) := by decide +kernel
theorem dX2_keep_28 : decode cX2_keep 28 = .ok (.invokestatic 26, 3) := by decide +kernel
theorem dX2_keep_31 : decode cX2_keep 31 = .ok (.putfield 18, 3) := by decide +kernel
theorem dX2_keep_34 : decode cX2_keep 34 = .ok (.aload_n 0, 1) := by decide +kernel
theorem dX2_keep_35 : decode cX2_keep 35 = .ok (.aload_n 0, 1) := by decide +kernel
theorem dX2_keep_36 : decode cX2_keep 36 = .ok (.getfield 32, 3) := by decide +kernel
theorem dX2_keep_39 : decode cX2_keep 39 = .ok (.iconst 1, 1) := by decide +kernel
theorem dX2_keep_40 : decode cX2_keep 40 = .ok (.iadd, 1) := by decide +kernel
theorem dX2_keep_41 : decode cX2_keep 41 = .ok (.iconst 5, 1) := by decide +kernel
theorem dX2_keep_42 : decode cX2_keep 42 = .ok (.invokestatic 35, 3) := by decide +kernel
theorem dX2_keep_45 : decode cX2_keep 45 = .ok (.putfield 32, 3) := by decide +kernel
theorem dX2_keep_48 : decode cX2_keep 48 = .ok (.return_, 1) := by decide +kernel
set_option maxRecDepth 20000 in
theorem ggX3_init_X1_init : GoodIn wsX3_init wsX1_init := goodIn_r _ [15, 16, 2, 3, 4, 17, 18, 19, 20, 21, 22, 38, 39, 40, 41, 42, 43, 44, 45] (by decide +kernel) (by decide +kernel)
set_option maxRecDepth 20000 in
theorem gX3_init_X1_init_n17 : GoodIn wsX3_init (wsX1_init) := ggX3_init_X1_init
set_option maxRecDepth 20000 in
theorem ggX3_init_X0_init : GoodIn wsX3_init wsX0_init := goodIn_r _ [24, 25, 2, 3, 4, 26, 27, 28, 29, 30, 31, 32, 33, 46, 47, 48, 49, 50, 51, 52, 53, 54] (by decide +kernel) (by decide +kernel)
set_option maxRecDepth 20000 in
theorem gX3_init_X0_init_n24 : GoodIn wsX3_init (wsX0_init) := ggX3_init_X0_init
theorem dX3_init_0 : decode cX3_init 0 = .ok (.aload_n 0, 1) := by decide +kernel
theorem dX3_init_1 : decode cX3_init 1 = .ok (.invokespecial 3, 3) := by decide +kernel
theorem dX3_init_4 : decode cX3_init 4 = .ok (.aload_n 0, 1) := by decide +kernel
theorem dX3_init_5 : decode cX3_init 5 = .ok (.bipush 24, 2) := by decide +kernel
theorem dX3_init_7 : decode cX3_init 7 = .ok (.newarray .int, 2) := by decide +kernel
theorem dX3_init_9 : decode cX3_init 9 = .ok (.putfield 9, 3) := by decide +kernel
theorem dX3_init_12 : decode cX3_init 12 = .ok (.aload_n 0, 1) := by decide +kernel
theorem dX3_init_13 : decode cX3_init 13 = .ok (.new 15, 3) := by decide +kernel
theorem dX3_init_16 : decode cX3_init 16 = .ok (.dup, 1) := by decide +kernel
theorem dX3_init_17 : decode cX3_init 17 = .ok (.invokespecial 17, 3) := by decide +kernel
theorem dX3_init_20 : decode cX3_init 20 = .ok (.putfield 18, 3) := by decide +kernel
theorem dX3_init_23 : decode cX3_init 23 = .ok (.aload_n 0, 1) := by decide +kernel
theorem dX3_init_24 : decode cX3_init 24 = .ok (.new 22, 3) := by decide +kernel
theorem dX3_init_27 : decode cX3_init 27 = .ok (.dup, 1) := by decide +kernel
theorem dX3_init_28 : decode cX3_init 28 = .ok (.invokespecial 24, 3) := by decide +kernel
theorem dX3_init_31 : decode cX3_init 31 = .ok (.putfield 25, 3) := by decide +kernel
theorem dX3_init_34 : decode cX3_init 34 = .ok (.iconst 0, 1) := by decide +kernel
theorem dX3_init_35 : decode cX3_init 35 = .ok (.istore_n 1, 1) := by decide +kernel
theorem dX3_init_36 : decode cX3_init 36 = .ok (.iload_n 1, 1) := by decide +kernel
theorem dX3_init_37 : decode cX3_init 37 = .ok (.bipush 24, 2) := by decide +kernel
theorem dX3_init_39 : decode cX3_init 39 = .ok (.if_icmp .ge 16, 3) := by decide +kernel
theorem dX3_init_42 : decode cX3_init 42 = .ok (.aload_n 0, 1) := by decide +kernel
theorem dX3_init_43 : decode cX3_init 43 = .ok (.getfield 9, 3) := by decide +kernel
theorem dX3_init_46 : decode cX3_init 46 = .ok (.iload_n 1, 1) := by decide +kernel
theorem dX3_init_47 : decode cX3_init 47 = .ok (.iconst 5, 1) := by decide +kernel
theorem dX3_init_48 : decode cX3_init 48 = .ok (.iastore, 1) := by decide +kernel
theorem dX3_init_49 : decode cX3_init 49 = .ok (.iinc 1 1, 3) := by decide +kernel
theorem dX3_init_52 : decode cX3_init 52 = .ok (.goto (-16), 3) := by decide +kernel
theorem dX3_init_55 : decode cX3_init 55 = .ok (.return_, 1) := by decide +kernel
set_option maxRecDepth 20000 in
theorem ggX3_copyFrom_X1_copyFrom : GoodIn wsX3_copyFrom wsX1_copyFrom := goodIn_r _ [13, 14, 15, 16, 17, 4, 5, 6, 18, 19, 20, 21, 22, 42, 43, 44, 45, 46, 47, 48, 49] (by decide +kernel) (by decide +kernel)
set_option maxRecDepth 20000 in
theorem gX3_copyFrom_X1_copyFrom : GoodIn wsX3_copyFrom (wsV RX3 39 RX1 yX1_copyFrom wsX1_copyFrom) := goodIn_app (goodIn_of _ (by decide +kernel)) ggX3_copyFrom_X1_copyFrom
set_option maxRecDepth 20000 in
theorem ggX3_copyFrom_X0_copyFrom : GoodIn wsX3_copyFrom wsX0_copyFrom := goodIn_r _ [27, 28, 29, 30, 4, 5, 6, 31, 32, 33, 34, 35, 36, 37, 50, 51, 52, 53, 54, 55, 56, 57, 58] (by decide +kernel) (by decide +kernel)
set_option maxRecDepth 20000 in
theorem gX3_copyFrom_X0_copyFrom : GoodIn wsX3_copyFrom (wsV RX3 43 RX0 yX0_copyFrom wsX0_copyFrom) := goodIn_app (goodIn_of _ (by decide +kernel)) ggX3_copyFrom_X0_copyFrom
theorem dX3_copyFrom_0 : decode cX3_copyFrom 0 = .ok (.aload_n 0, 1) := by decide +kernel
theorem dX3_copyFrom_1 : decode cX3_copyFrom 1 = .ok (.aload_n 1, 1) := by decide +kernel
theorem dX3_copyFrom_2 : decode cX3_copyFrom 2 = .ok (.getfield 29, 3) := by decide +kernel
theorem dX3_copyFrom_5 : decode cX3_copyFrom 5 = .ok (.putfield 29, 3) := by decide +kernel
theorem dX3_copyFrom_8 : decode cX3_copyFrom 8 = .ok (.aload_n 1, 1) := by decide +kernel
theorem dX3_copyFrom_9 : decode cX3_copyFrom 9 = .ok (.getfield 9, 3) := by decide +kernel
theorem dX3_copyFrom_12 : decode cX3_copyFrom 12 = .ok (.iconst 0, 1) := by decide +kernel
theorem dX3_copyFrom_13 : decode cX3_copyFrom 13 = .ok (.aload_n 0, 1) := by decide +kernel
theorem dX3_copyFrom_14 : decode cX3_copyFrom 14 = .ok (.getfield 9, 3) := by decide +kernel
theorem dX3_copyFrom_17 : decode cX3_copyFrom 17 = .ok (.iconst 0, 1) := by decide +kernel
theorem dX3_copyFrom_18 : decode cX3_copyFrom 18 = .ok (.bipush 24, 2) := by decide +kernel
theorem dX3_copyFrom_20 : decode cX3_copyFrom 20 = .ok (.invokestatic 33, 3) := by decide +kernel
theorem dX3_copyFrom_23 : decode cX3_copyFrom 23 = .ok (.aload_n 0, 1) := by decide +kernel
theorem dX3_copyFrom_24 : decode cX3_copyFrom 24 = .ok (.getfield 18, 3) := by decide +kernel
theorem dX3_copyFrom_27 : decode cX3_copyFrom 27 = .ok (.aload_n 1, 1) := by decide +kernel
theorem dX3_copyFrom_28 : decode cX3_copyFrom 28 = .ok (.getfield 18, 3) := by decide +kernel
theorem dX3_copyFrom_31 : decode cX3_copyFrom 31 = .ok (.invokevirtual 39, 3) := by decide +kernel
theorem dX3_copyFrom_34 : decode cX3_copyFrom 34 = .ok (.aload_n 0, 1) := by decide +kernel
theorem dX3_copyFrom_35 : decode cX3_copyFrom 35 = .ok (.getfield 25, 3) := by decide +kernel
theorem dX3_copyFrom_38 : decode cX3_copyFrom 38 = .ok (.aload_n 1, 1) := by decide +kernel
theorem dX3_copyFrom_39 : decode cX3_copyFrom 39 = .ok (.getfield 25, 3) := by decide +kernel
theorem dX3_copyFrom_42 : decode cX3_copyFrom 42 = .ok (.invokevirtual 43, 3) := by decide +kernel
theorem dX3_copyFrom_45 : decode cX3_copyFrom 45 = .ok (.return_, 1) := by decide +kernel
theorem dX3_hour_0 : decode cX3_hour 0 = .ok (.aload_n 0, 1) := by decide +kernel
theorem dX3_hour_1 : decode cX3_hour 1 = .ok (.getfield 29, 3) := by decide +kernel
theorem dX3_hour_4 : decode cX3_hour 4 = .ok (.bipush 60, 2) := by decide +kernel
theorem dX3_hour_6 : decode cX3_hour 6 = .ok (.idiv, 1) := by decide +kernel
theorem dX3_hour_7 : decode cX3_hour 7 = .ok (.bipush 24, 2) := by decide +kernel
theorem dX3_hour_9 : decode cX3_hour 9 = .ok (.irem, 1) := by decide +kernel
theorem dX3_hour_10 : decode cX3_hour 10 = .ok (.ireturn, 1) := by decide +kernel
set_option maxRecDepth 20000 in
theorem ggX3_isAwake_X3_hour : GoodIn wsX3_isAwake wsX3_hour := goodIn_r _ [6, 7, 8, 9, 10, 11] (by decide +kernel) (by decide +kernel)
set_option maxRecDepth 20000 in
theorem gX3_isAwake_X3_hour : GoodIn wsX3_isAwake (wsV RX3 46 RX3 yX3_hour wsX3_hour) := goodIn_app (goodIn_of _ (by decide +kernel)) ggX3_isAwake_X3_hour
theorem dX3_isAwake_0 : decode cX3_isAwake 0 = .ok (.iload_n 1, 1) := by decide +kernel
theorem dX3_isAwake_1 : decode cX3_isAwake 1 = .ok (.aload_n 0, 1) := by decide +kernel
theorem dX3_isAwake_2 : decode cX3_isAwake 2 = .ok (.getfield 9, 3) := by decide +kernel
theorem dX3_isAwake_5 : decode cX3_isAwake 5 = .ok (.aload_n 0, 1) := by decide +kernel
theorem dX3_isAwake_6 : decode cX3_isAwake 6 = .ok (.invokevirtual 46, 3) := by decide +kernel
theorem dX3_isAwake_9 : decode cX3_isAwake 9 = .ok (.iaload, 1) := by decide +kernel
theorem dX3_isAwake_10 : decode cX3_isAwake 10 = .ok (.if_icmp .ge 7, 3) := by decide +kernel
theorem dX3_isAwake_13 : decode cX3_isAwake 13 = .ok (.iconst 1, 1) := by decide +kernel
theorem dX3_isAwake_14 : decode cX3_isAwake 14 = .ok (.goto 4, 3) := by decide +kernel
theorem dX3_isAwake_17 : decode cX3_isAwake 17 = .ok (.iconst 0, 1) := by decide +kernel
theorem dX3_isAwake_18 : decode cX3_isAwake 18 = .ok (.ireturn, 1) := by decide +kernel
set_option maxRecDepth 20000 in
theorem ggX3_canBeGiven_X3_isAwake : GoodIn wsX3_canBeGiven wsX3_isAwake := goodIn_r _ [7, 8, 9, 10, 11, 6, 12, 13, 21, 22, 23, 24] (by decide +kernel) (by decide +kernel)
set_option maxRecDepth 20000 in
theorem gX3_canBeGiven_X3_isAwake : GoodIn wsX3_canBeGiven (wsV RX3 53 RX3 yX3_isAwake wsX3_isAwake) := goodIn_app (goodIn_of _ (by decide +kernel)) ggX3_canBeGiven_X3_isAwake
set_option maxRecDepth 20000 in
theorem ggX3_canBeGiven_X1_serves : GoodIn wsX3_canBeGiven wsX1_serves := goodIn_r _ [18, 19, 20, 25, 26, 27, 28, 29, 30, 31, 32] (by decide +kernel) (by decide +kernel)
set_option maxRecDepth 20000 in
theorem gX3_canBeGiven_X1_serves : GoodIn wsX3_canBeGiven (wsV RX3 57 RX1 yX1_serves wsX1_serves) := goodIn_app (goodIn_of _ (by decide +kernel)) ggX3_canBeGiven_X1_serves
theorem dX3_canBeGiven_0 : decode cX3_canBeGiven 0 = .ok (.aload_n 0, 1) := by decide +kernel
theorem dX3_canBeGiven_1 : decode cX3_canBeGiven 1 = .ok (.getfield 18, 3) := by decide +kernel
theorem dX3_canBeGiven_4 : decode cX3_canBeGiven 4 = .ok (.getfield 50, 3) := by decide +kernel
theorem dX3_canBeGiven_7 : decode cX3_canBeGiven 7 = .ok (.iload_n 1, 1) := by decide +kernel
theorem dX3_canBeGiven_8 : decode cX3_canBeGiven 8 = .ok (.iaload, 1) := by decide +kernel
theorem dX3_canBeGiven_9 : decode cX3_canBeGiven 9 = .ok (.ifCond .ne 39, 3) := by decide +kernel
theorem dX3_canBeGiven_12 : decode cX3_canBeGiven 12 = .ok (.aload_n 0, 1) := by decide +kernel
theorem dX3_canBeGiven_13 : decode cX3_canBeGiven 13 = .ok (.iload_n 1, 1) := by decide +kernel
theorem dX3_canBeGiven_14 : decode cX3_canBeGiven 14 = .ok (.invokevirtual 53, 3) := by decide +kernel
theorem dX3_canBeGiven_17 : decode cX3_canBeGiven 17 = .ok (.ifCond .eq 31, 3) := by decide +kernel
theorem dX3_canBeGiven_20 : decode cX3_canBeGiven 20 = .ok (.aload_n 0, 1) := by decide +kernel
theorem dX3_canBeGiven_21 : decode cX3_canBeGiven 21 = .ok (.getfield 18, 3) := by decide +kernel
theorem dX3_canBeGiven_24 : decode cX3_canBeGiven 24 = .ok (.iload_n 1, 1) := by decide +kernel
theorem dX3_canBeGiven_25 : decode cX3_canBeGiven 25 = .ok (.iload_n 2, 1) := by decide +kernel
theorem dX3_canBeGiven_26 : decode cX3_canBeGiven 26 = .ok (.invokevirtual 57, 3) := by decide +kernel
theorem dX3_canBeGiven_29 : decode cX3_canBeGiven 29 = .ok (.ifCond .eq 19, 3) := by decide +kernel
theorem dX3_canBeGiven_32 : decode cX3_canBeGiven 32 = .ok (.aload_n 0, 1) := by decide +kernel
theorem dX3_canBeGiven_33 : decode cX3_canBeGiven 33 = .ok (.getfield 18, 3) := by decide +kernel
theorem dX3_canBeGiven_36 : decode cX3_canBeGiven 36 = .ok (.iload_n 1, 1) := by decide +kernel
theorem dX3_canBeGiven_37 : decode cX3_canBeGiven 37 = .ok (.iload_n 3, 1) := by decide +kernel
theorem dX3_canBeGiven_38 : decode cX3_canBeGiven 38 = .ok (.invokevirtual 57, 3) := by decide +kernel
theorem dX3_canBeGiven_41 : decode cX3_canBeGiven 41 = .ok (.ifCond .eq 7, 3) := by decide +kernel
theorem dX3_canBeGiven_44 : decode cX3_canBeGiven 44 = .ok (.iconst 1, 1) := by decide +kernel
theorem dX3_canBeGiven_45 : decode cX3_canBeGiven 45 = .ok (.goto 4, 3) := by decide +kernel
theorem dX3_canBeGiven_48 : decode cX3_canBeGiven 48 = .ok (.iconst 0, 1) := by decide +kernel
theorem dX3_canBeGiven_49 : decode cX3_canBeGiven 49 = .ok (.ireturn, 1) := by decide +kernel
set_option maxRecDepth 20000 in
theorem ggX3_costOf_X0_stopsOf : GoodIn wsX3_costOf wsX0_stopsOf := goodIn_r _ [12, 13, 14, 15, 16, 17, 18, 11, 19, 20, 21, 22, 23, 24, 25, 53, 54, 55, 56, 57, 58, 59, 60, 61] (by decide +kernel) (by decide +kernel)
set_option maxRecDepth 20000 in
theorem gX3_costOf_X0_stopsOf : GoodIn wsX3_costOf (wsV RX3 70 RX0 yX0_stopsOf wsX0_stopsOf) := goodIn_app (goodIn_of _ (by decide +kernel)) ggX3_costOf_X0_stopsOf
set_option maxRecDepth 20000 in
theorem ggX3_costOf_J6_bitCount_0f7a4 : GoodIn wsX3_costOf wsJ6_bitCount_0f7a4 := goodIn_r _ [29, 30, 31, 32] (by decide +kernel) (by decide +kernel)
set_option maxRecDepth 20000 in
theorem gX3_costOf_J6_bitCount_0f7a4 : GoodIn wsX3_costOf (va_wsS RX3 73 yJ6_bitCount_0f7a4 wsJ6_bitCount_0f7a4) := goodIn_app (goodIn_of _ (by decide +kernel)) ggX3_costOf_J6_bitCount_0f7a4
set_option maxRecDepth 20000 in
theorem ggX3_costOf_X0_numberWith : GoodIn wsX3_costOf wsX0_numberWith := goodIn_r _ [36, 37, 38, 39, 11, 40, 13, 20, 21, 53, 54, 55, 56, 57, 58, 59, 60, 61] (by decide +kernel) (by decide +kernel)
set_option maxRecDepth 20000 in
theorem gX3_costOf_X0_numberWith : GoodIn wsX3_costOf (wsV RX3 78 RX0 yX0_numberWith wsX0_numberWith) := goodIn_app (goodIn_of _ (by decide +kernel)) ggX3_costOf_X0_numberWith
theorem dX3_costOf_0 : decode cX3_costOf 0 = .ok (.aload_n 0, 1) := by decide +kernel
theorem dX3_costOf_1 : decode cX3_costOf 1 = .ok (.getfield 18, 3) := by decide +kernel
theorem dX3_costOf_4 : decode cX3_costOf 4 = .ok (.getfield 61, 3) := by decide +kernel
theorem dX3_costOf_7 : decode cX3_costOf 7 = .ok (.iload_n 1, 1) := by decide +kernel
theorem dX3_costOf_8 : decode cX3_costOf 8 = .ok (.iaload, 1) := by decide +kernel
theorem dX3_costOf_9 : decode cX3_costOf 9 = .ok (.iload_n 2, 1) := by decide +kernel
theorem dX3_costOf_10 : decode cX3_costOf 10 = .ok (.isub, 1) := by decide +kernel
theorem dX3_costOf_11 : decode cX3_costOf 11 = .ok (.invokestatic 64, 3) := by decide +kernel
theorem dX3_costOf_14 : decode cX3_costOf 14 = .ok (.istore 4, 2) := by decide +kernel
theorem dX3_costOf_16 : decode cX3_costOf 16 = .ok (.aload_n 0, 1) := by decide +kernel
theorem dX3_costOf_17 : decode cX3_costOf 17 = .ok (.getfield 25, 3) := by decide +kernel
theorem dX3_costOf_20 : decode cX3_costOf 20 = .ok (.iload_n 1, 1) := by decide +kernel
theorem dX3_costOf_21 : decode cX3_costOf 21 = .ok (.invokevirtual 70, 3) := by decide +kernel
theorem dX3_costOf_24 : decode cX3_costOf 24 = .ok (.iconst 1, 1) := by decide +kernel
theorem dX3_costOf_25 : decode cX3_costOf 25 = .ok (.iload_n 2, 1) := by decide +kernel
theorem dX3_costOf_26 : decode cX3_costOf 26 = .ok (.ishl, 1) := by decide +kernel
theorem dX3_costOf_27 : decode cX3_costOf 27 = .ok (.ior, 1) := by decide +kernel
theorem dX3_costOf_28 : decode cX3_costOf 28 = .ok (.iconst 1, 1) := by decide +kernel
theorem dX3_costOf_29 : decode cX3_costOf 29 = .ok (.iload_n 3, 1) := by decide +kernel
theorem dX3_costOf_30 : decode cX3_costOf 30 = .ok (.ishl, 1) := by decide +kernel
theorem dX3_costOf_31 : decode cX3_costOf 31 = .ok (.ior, 1) := by decide +kernel
theorem dX3_costOf_32 : decode cX3_costOf 32 = .ok (.invokestatic 73, 3) := by decide +kernel
theorem dX3_costOf_35 : decode cX3_costOf 35 = .ok (.istore 5, 2) := by decide +kernel
theorem dX3_costOf_37 : decode cX3_costOf 37 = .ok (.iload 4, 2) := by decide +kernel
theorem dX3_costOf_39 : decode cX3_costOf 39 = .ok (.iconst 2, 1) := by decide +kernel
theorem dX3_costOf_40 : decode cX3_costOf 40 = .ok (.iload 5, 2) := by decide +kernel
theorem dX3_costOf_42 : decode cX3_costOf 42 = .ok (.imul, 1) := by decide +kernel
theorem dX3_costOf_43 : decode cX3_costOf 43 = .ok (.iadd, 1) := by decide +kernel
theorem dX3_costOf_44 : decode cX3_costOf 44 = .ok (.aload_n 0, 1) := by decide +kernel
theorem dX3_costOf_45 : decode cX3_costOf 45 = .ok (.getfield 25, 3) := by decide +kernel
theorem dX3_costOf_48 : decode cX3_costOf 48 = .ok (.iload_n 1, 1) := by decide +kernel
theorem dX3_costOf_49 : decode cX3_costOf 49 = .ok (.invokevirtual 78, 3) := by decide +kernel
theorem dX3_costOf_52 : decode cX3_costOf 52 = .ok (.iadd, 1) := by decide +kernel
theorem dX3_costOf_53 : decode cX3_costOf 53 = .ok (.ireturn, 1) := by decide +kernel
set_option maxRecDepth 20000 in
theorem ggX3_bestCar_X3_canBeGiven : GoodIn wsX3_bestCar wsX3_canBeGiven := goodIn_r _ [7, 1, 8, 9, 10, 11, 6, 12, 13, 14, 15, 16, 17, 18, 19, 20, 21, 22, 23, 24, 25, 69, 70, 71, 72, 73, 74, 75, 76, 77, 78, 79, 80] (by decide +kernel) (by decide +kernel)
set_option maxRecDepth 20000 in
theorem gX3_bestCar_X3_canBeGiven : GoodIn wsX3_bestCar (wsV RX3 84 RX3 yX3_canBeGiven wsX3_canBeGiven) := goodIn_app (goodIn_of _ (by decide +kernel)) ggX3_bestCar_X3_canBeGiven
set_option maxRecDepth 20000 in
theorem ggX3_bestCar_X3_costOf : GoodIn wsX3_bestCar wsX3_costOf := goodIn_r _ [29, 1, 30, 31, 32, 33, 34, 35, 36, 37, 38, 39, 40, 41, 42, 43, 44, 45, 46, 47, 48, 49, 50, 51, 52, 53, 54, 55, 56, 57, 58, 59, 60, 61, 62, 63, 64, 65, 66, 67, 68, 69, 70, 71, 72, 73, 74, 75, 76, 77, 78, 79, 80, 81, 82, 83, 84, 85, 86, 87, 88, 89] (by decide +kernel) (by decide +kernel)
set_option maxRecDepth 20000 in
theorem gX3_bestCar_X3_costOf : GoodIn wsX3_bestCar (wsV RX3 88 RX3 yX3_costOf wsX3_costOf) := goodIn_app (goodIn_of _ (by decide +kernel)) ggX3_bestCar_X3_costOf
theorem dX3_bestCar_0 : decode cX3_bestCar 0 = .ok (.bipush (-9), 2) := by decide +kernel
theorem dX3_bestCar_2 : decode cX3_bestCar 2 = .ok (.istore_n 3, 1) := by decide +kernel
theorem dX3_bestCar_3 : decode cX3_bestCar 3 = .ok (.iconst 0, 1) := by decide +kernel
theorem dX3_bestCar_4 : decode cX3_bestCar 4 = .ok (.istore 4, 2) := by decide +kernel
theorem dX3_bestCar_6 : decode cX3_bestCar 6 = .ok (.iconst 0, 1) := by decide +kernel
theorem dX3_bestCar_7 : decode cX3_bestCar 7 = .ok (.istore 5, 2) := by decide +kernel
theorem dX3_bestCar_9 : decode cX3_bestCar 9 = .ok (.iload 5, 2) := by decide +kernel
theorem dX3_bestCar_11 : decode cX3_bestCar 11 = .ok (.aload_n 0, 1) := by decide +kernel
theorem dX3_bestCar_12 : decode cX3_bestCar 12 = .ok (.getfield 18, 3) := by decide +kernel
theorem dX3_bestCar_15 : decode cX3_bestCar 15 = .ok (.getfield 81, 3) := by decide +kernel
theorem dX3_bestCar_18 : decode cX3_bestCar 18 = .ok (.if_icmp .ge 53, 3) := by decide +kernel
theorem dX3_bestCar_21 : decode cX3_bestCar 21 = .ok (.aload_n 0, 1) := by decide +kernel
theorem dX3_bestCar_22 : decode cX3_bestCar 22 = .ok (.iload 5, 2) := by decide +kernel
theorem dX3_bestCar_24 : decode cX3_bestCar 24 = .ok (.iload_n 1, 1) := by decide +kernel
theorem dX3_bestCar_25 : decode cX3_bestCar 25 = .ok (.iload_n 2, 1) := by decide +kernel
theorem dX3_bestCar_26 : decode cX3_bestCar 26 = .ok (.invokevirtual 84, 3) := by decide +kernel
theorem dX3_bestCar_29 : decode cX3_bestCar 29 = .ok (.ifCond .ne 6, 3) := by decide +kernel
theorem dX3_bestCar_32 : decode cX3_bestCar 32 = .ok (.goto 33, 3) := by decide +kernel
theorem dX3_bestCar_35 : decode cX3_bestCar 35 = .ok (.aload_n 0, 1) := by decide +kernel
theorem dX3_bestCar_36 : decode cX3_bestCar 36 = .ok (.iload 5, 2) := by decide +kernel
theorem dX3_bestCar_38 : decode cX3_bestCar 38 = .ok (.iload_n 1, 1) := by decide +kernel
theorem dX3_bestCar_39 : decode cX3_bestCar 39 = .ok (.iload_n 2, 1) := by decide +kernel
theorem dX3_bestCar_40 : decode cX3_bestCar 40 = .ok (.invokevirtual 88, 3) := by decide +kernel
theorem dX3_bestCar_43 : decode cX3_bestCar 43 = .ok (.istore 6, 2) := by decide +kernel
theorem dX3_bestCar_45 : decode cX3_bestCar 45 = .ok (.iload_n 3, 1) := by decide +kernel
theorem dX3_bestCar_46 : decode cX3_bestCar 46 = .ok (.bipush (-9), 2) := by decide +kernel
theorem dX3_bestCar_48 : decode cX3_bestCar 48 = .ok (.if_icmp .eq 10, 3) := by decide +kernel
theorem dX3_bestCar_51 : decode cX3_bestCar 51 = .ok (.iload 6, 2) := by decide +kernel
theorem dX3_bestCar_53 : decode cX3_bestCar 53 = .ok (.iload 4, 2) := by decide +kernel
theorem dX3_bestCar_55 : decode cX3_bestCar 55 = .ok (.if_icmp .ge 10, 3) := by decide +kernel
theorem dX3_bestCar_58 : decode cX3_bestCar 58 = .ok (.iload 5, 2) := by decide +kernel
theorem dX3_bestCar_60 : decode cX3_bestCar 60 = .ok (.istore_n 3, 1) := by decide +kernel
theorem dX3_bestCar_61 : decode cX3_bestCar 61 = .ok (.iload 6, 2) := by decide +kernel
theorem dX3_bestCar_63 : decode cX3_bestCar 63 = .ok (.istore 4, 2) := by decide +kernel
theorem dX3_bestCar_65 : decode cX3_bestCar 65 = .ok (.iinc 5 1, 3) := by decide +kernel
theorem dX3_bestCar_68 : decode cX3_bestCar 68 = .ok (.goto (-59), 3) := by decide +kernel
theorem dX3_bestCar_71 : decode cX3_bestCar 71 = .ok (.iload_n 3, 1) := by decide +kernel
theorem dX3_bestCar_72 : decode cX3_bestCar 72 = .ok (.ireturn, 1) := by decide +kernel
set_option maxRecDepth 20000 in
theorem ggX3_oneTick_X3_bestCar : GoodIn wsX3_oneTick wsX3_bestCar := goodIn_r _ [14, 6, 7, 15, 16, 17, 13, 18, 8, 19, 20, 21, 22, 23, 24, 25, 26, 27, 9, 28, 29, 30, 31, 32, 33, 34, 35, 36, 37, 38, 39, 40, 41, 42, 43, 1, 44, 45, 46, 47, 48, 49, 50, 51, 52, 53, 54, 55, 56, 57, 58, 59, 60, 61, 62, 63, 64, 65, 66, 67, 68, 69, 70, 71, 72, 73, 74, 75, 76, 116, 117, 118, 119, 129, 130, 131, 132, 133, 134, 135, 136, 120, 121, 122, 123, 124, 125, 126, 127, 128] (by decide +kernel) (by decide +kernel)
set_option maxRecDepth 20000 in
theorem gX3_oneTick_X3_bestCar : GoodIn wsX3_oneTick (wsV RX3 100 RX3 yX3_bestCar wsX3_bestCar) := goodIn_app (goodIn_of _ (by decide +kernel)) ggX3_oneTick_X3_bestCar
set_option maxRecDepth 20000 in
theorem ggX3_oneTick_X0_give : GoodIn wsX3_oneTick wsX0_give := goodIn_r _ [80, 56, 57, 81, 82, 83, 84, 47, 85, 49, 120, 121, 122, 123, 124, 125, 126, 127, 128] (by decide +kernel) (by decide +kernel)
set_option maxRecDepth 20000 in
theorem gX3_oneTick_X0_give : GoodIn wsX3_oneTick (wsV RX3 104 RX0 yX0_give wsX0_give) := goodIn_app (goodIn_of _ (by decide +kernel)) ggX3_oneTick_X0_give
set_option maxRecDepth 20000 in
theorem ggX3_oneTick_X3_stopOrTravel : GoodIn wsX3_oneTick wsX3_stopOrTravel := goodIn_r _ [89, 6, 39, 1, 9, 90, 91, 92, 93, 94, 47, 95, 49, 51, 56, 96, 58, 59, 60, 61, 57, 97, 98, 99, 100, 50, 101, 73, 74, 75, 76, 52, 53, 54, 55, 102, 103, 104, 105, 106, 107, 108, 109, 41, 42, 43, 110, 111, 112, 31, 113, 114, 115, 116, 117, 118, 119, 129, 130, 131, 132, 133, 134, 135, 136, 120, 121, 122, 123, 124, 125, 126, 127, 128] (by decide +kernel) (by decide +kernel)
set_option maxRecDepth 20000 in
theorem gX3_oneTick_X3_stopOrTravel : GoodIn wsX3_oneTick (wsV RX3 108 RX3 yX3_stopOrTravel wsX3_stopOrTravel) := goodIn_app (goodIn_of _ (by decide +kernel)) ggX3_oneTick_X3_stopOrTravel
theorem dX3_oneTick_0 : decode cX3_oneTick 0 = .ok (.iconst 0, 1) := by decide +kernel
theorem dX3_oneTick_1 : decode cX3_oneTick 1 = .ok (.istore_n 1, 1) := by decide +kernel
theorem dX3_oneTick_2 : decode cX3_oneTick 2 = .ok (.iload_n 1, 1) := by decide +kernel
theorem dX3_oneTick_3 : decode cX3_oneTick 3 = .ok (.aload_n 0, 1) := by decide +kernel
theorem dX3_oneTick_4 : decode cX3_oneTick 4 = .ok (.getfield 25, 3) := by decide +kernel
theorem dX3_oneTick_7 : decode cX3_oneTick 7 = .ok (.getfield 92, 3) := by decide +kernel
theorem dX3_oneTick_10 : decode cX3_oneTick 10 = .ok (.if_icmp .ge 51, 3) := by decide +kernel
theorem dX3_oneTick_13 : decode cX3_oneTick 13 = .ok (.aload_n 0, 1) := by decide +kernel
theorem dX3_oneTick_14 : decode cX3_oneTick 14 = .ok (.getfield 25, 3) := by decide +kernel
theorem dX3_oneTick_17 : decode cX3_oneTick 17 = .ok (.getfield 93, 3) := by decide +kernel
theorem dX3_oneTick_20 : decode cX3_oneTick 20 = .ok (.iload_n 1, 1) := by decide +kernel
theorem dX3_oneTick_21 : decode cX3_oneTick 21 = .ok (.iaload, 1) := by decide +kernel
theorem dX3_oneTick_22 : decode cX3_oneTick 22 = .ok (.ifCond .ne 33, 3) := by decide +kernel
theorem dX3_oneTick_25 : decode cX3_oneTick 25 = .ok (.aload_n 0, 1) := by decide +kernel
theorem dX3_oneTick_26 : decode cX3_oneTick 26 = .ok (.getfield 25, 3) := by decide +kernel
theorem dX3_oneTick_29 : decode cX3_oneTick 29 = .ok (.iload_n 1, 1) := by decide +kernel
theorem dX3_oneTick_30 : decode cX3_oneTick 30 = .ok (.aload_n 0, 1) := by decide +kernel
theorem dX3_oneTick_31 : decode cX3_oneTick 31 = .ok (.aload_n 0, 1) := by decide +kernel
theorem dX3_oneTick_32 : decode cX3_oneTick 32 = .ok (.getfield 25, 3) := by decide +kernel
theorem dX3_oneTick_35 : decode cX3_oneTick 35 = .ok (.getfield 96, 3) := by decide +kernel
theorem dX3_oneTick_38 : decode cX3_oneTick 38 = .ok (.iload_n 1, 1) := by decide +kernel
theorem dX3_oneTick_39 : decode cX3_oneTick 39 = .ok (.iaload, 1) := by decide +kernel
theorem dX3_oneTick_40 : decode cX3_oneTick 40 = .ok (.aload_n 0, 1) := by decide +kernel
theorem dX3_oneTick_41 : decode cX3_oneTick 41 = .ok (.getfield 25, 3) := by decide +kernel
theorem dX3_oneTick_44 : decode cX3_oneTick 44 = .ok (.getfield 97, 3) := by decide +kernel
theorem dX3_oneTick_47 : decode cX3_oneTick 47 = .ok (.iload_n 1, 1) := by decide +kernel
theorem dX3_oneTick_48 : decode cX3_oneTick 48 = .ok (.iaload, 1) := by decide +kernel
theorem dX3_oneTick_49 : decode cX3_oneTick 49 = .ok (.invokevirtual 100, 3) := by decide +kernel
theorem dX3_oneTick_52 : decode cX3_oneTick 52 = .ok (.invokevirtual 104, 3) := by decide +kernel
theorem dX3_oneTick_55 : decode cX3_oneTick 55 = .ok (.iinc 1 1, 3) := by decide +kernel
theorem dX3_oneTick_58 : decode cX3_oneTick 58 = .ok (.goto (-56), 3) := by decide +kernel
theorem dX3_oneTick_61 : decode cX3_oneTick 61 = .ok (.iconst 0, 1) := by decide +kernel
theorem dX3_oneTick_62 : decode cX3_oneTick 62 = .ok (.istore_n 1, 1) := by decide +kernel
theorem dX3_oneTick_63 : decode cX3_oneTick 63 = .ok (.iload_n 1, 1) := by decide +kernel
theorem dX3_oneTick_64 : decode cX3_oneTick 64 = .ok (.aload_n 0, 1) := by decide +kernel
theorem dX3_oneTick_65 : decode cX3_oneTick 65 = .ok (.getfield 18, 3) := by decide +kernel
theorem dX3_oneTick_68 : decode cX3_oneTick 68 = .ok (.getfield 81, 3) := by decide +kernel
theorem dX3_oneTick_71 : decode cX3_oneTick 71 = .ok (.if_icmp .ge 26, 3) := by decide +kernel
theorem dX3_oneTick_74 : decode cX3_oneTick 74 = .ok (.aload_n 0, 1) := by decide +kernel
theorem dX3_oneTick_75 : decode cX3_oneTick 75 = .ok (.getfield 18, 3) := by decide +kernel
theorem dX3_oneTick_78 : decode cX3_oneTick 78 = .ok (.getfield 50, 3) := by decide +kernel
theorem dX3_oneTick_81 : decode cX3_oneTick 81 = .ok (.iload_n 1, 1) := by decide +kernel
theorem dX3_oneTick_82 : decode cX3_oneTick 82 = .ok (.iaload, 1) := by decide +kernel
theorem dX3_oneTick_83 : decode cX3_oneTick 83 = .ok (.ifCond .ne 8, 3) := by decide +kernel
theorem dX3_oneTick_86 : decode cX3_oneTick 86 = .ok (.aload_n 0, 1) := by decide +kernel
theorem dX3_oneTick_87 : decode cX3_oneTick 87 = .ok (.iload_n 1, 1) := by decide +kernel
theorem dX3_oneTick_88 : decode cX3_oneTick 88 = .ok (.invokevirtual 108, 3) := by decide +kernel
theorem dX3_oneTick_91 : decode cX3_oneTick 91 = .ok (.iinc 1 1, 3) := by decide +kernel
theorem dX3_oneTick_94 : decode cX3_oneTick 94 = .ok (.goto (-31), 3) := by decide +kernel
theorem dX3_oneTick_97 : decode cX3_oneTick 97 = .ok (.aload_n 0, 1) := by decide +kernel
theorem dX3_oneTick_98 : decode cX3_oneTick 98 = .ok (.dup, 1) := by decide +kernel
theorem dX3_oneTick_99 : decode cX3_oneTick 99 = .ok (.getfield 29, 3) := by decide +kernel
theorem dX3_oneTick_102 : decode cX3_oneTick 102 = .ok (.iconst 1, 1) := by decide +kernel
theorem dX3_oneTick_103 : decode cX3_oneTick 103 = .ok (.iadd, 1) := by decide +kernel
theorem dX3_oneTick_104 : decode cX3_oneTick 104 = .ok (.putfield 29, 3) := by decide +kernel
theorem dX3_oneTick_107 : decode cX3_oneTick 107 = .ok (.return_, 1) := by decide +kernel
set_option maxRecDepth 20000 in
theorem ggX3_stopOrTravel_X0_letOut : GoodIn wsX3_stopOrTravel wsX0_letOut := goodIn_r _ [11, 12, 13, 14, 15, 16, 17, 18, 10, 19, 20, 65, 66, 67, 68, 69, 70, 71, 72, 73] (by decide +kernel) (by decide +kernel)
set_option maxRecDepth 20000 in
theorem gX3_stopOrTravel_X0_letOut : GoodIn wsX3_stopOrTravel (wsV RX3 112 RX0 yX0_letOut wsX0_letOut) := goodIn_app (goodIn_of _ (by decide +kernel)) ggX3_stopOrTravel_X0_letOut
set_option maxRecDepth 20000 in
theorem ggX3_stopOrTravel_X0_takeIn : GoodIn wsX3_stopOrTravel wsX0_takeIn := goodIn_r _ [24, 12, 25, 14, 26, 27, 28, 29, 10, 30, 20, 31, 32, 33, 34, 65, 66, 67, 68, 69, 70, 71, 72, 73] (by decide +kernel) (by decide +kernel)
set_option maxRecDepth 20000 in
theorem gX3_stopOrTravel_X0_takeIn : GoodIn wsX3_stopOrTravel (wsV RX3 118 RX0 yX0_takeIn wsX0_takeIn) := goodIn_app (goodIn_of _ (by decide +kernel)) ggX3_stopOrTravel_X0_takeIn
set_option maxRecDepth 20000 in
theorem ggX3_stopOrTravel_X0_aimOf : GoodIn wsX3_stopOrTravel wsX0_aimOf := goodIn_r _ [38, 12, 13, 25, 16, 17, 18, 10, 19, 14, 20, 39, 40, 41, 42, 43, 44, 45, 31, 32, 33, 34, 65, 66, 67, 68, 69, 70, 71, 72, 73] (by decide +kernel) (by decide +kernel)
set_option maxRecDepth 20000 in
theorem gX3_stopOrTravel_X0_aimOf : GoodIn wsX3_stopOrTravel (wsV RX3 125 RX0 yX0_aimOf wsX0_aimOf) := goodIn_app (goodIn_of _ (by decide +kernel)) ggX3_stopOrTravel_X0_aimOf
set_option maxRecDepth 20000 in
theorem ggX3_stopOrTravel_X1_travelTowards : GoodIn wsX3_stopOrTravel wsX1_travelTowards := goodIn_r _ [50, 51, 52, 57, 58, 59, 60, 61, 62, 63, 64] (by decide +kernel) (by decide +kernel)
set_option maxRecDepth 20000 in
theorem gX3_stopOrTravel_X1_travelTowards : GoodIn wsX3_stopOrTravel (wsV RX3 128 RX1 yX1_travelTowards wsX1_travelTowards) := goodIn_app (goodIn_of _ (by decide +kernel)) ggX3_stopOrTravel_X1_travelTowards
theorem dX3_stopOrTravel_0 : decode cX3_stopOrTravel 0 = .ok (.aload_n 0, 1) := by decide +kernel
theorem dX3_stopOrTravel_1 : decode cX3_stopOrTravel 1 = .ok (.getfield 18, 3) := by decide +kernel
theorem dX3_stopOrTravel_4 : decode cX3_stopOrTravel 4 = .ok (.getfield 61, 3) := by decide +kernel
theorem dX3_stopOrTravel_7 : decode cX3_stopOrTravel 7 = .ok (.iload_n 1, 1) := by decide +kernel
theorem dX3_stopOrTravel_8 : decode cX3_stopOrTravel 8 = .ok (.iaload, 1) := by decide +kernel
theorem dX3_stopOrTravel_9 : decode cX3_stopOrTravel 9 = .ok (.istore_n 2, 1) := by decide +kernel
theorem dX3_stopOrTravel_10 : decode cX3_stopOrTravel 10 = .ok (.aload_n 0, 1) := by decide +kernel
theorem dX3_stopOrTravel_11 : decode cX3_stopOrTravel 11 = .ok (.getfield 25, 3) := by decide +kernel
theorem dX3_stopOrTravel_14 : decode cX3_stopOrTravel 14 = .ok (.iload_n 1, 1) := by decide +kernel
theorem dX3_stopOrTravel_15 : decode cX3_stopOrTravel 15 = .ok (.iload_n 2, 1) := by decide +kernel
theorem dX3_stopOrTravel_16 : decode cX3_stopOrTravel 16 = .ok (.aload_n 0, 1) := by decide +kernel
theorem dX3_stopOrTravel_17 : decode cX3_stopOrTravel 17 = .ok (.getfield 29, 3) := by decide +kernel
theorem dX3_stopOrTravel_20 : decode cX3_stopOrTravel 20 = .ok (.invokevirtual 112, 3) := by decide +kernel
theorem dX3_stopOrTravel_23 : decode cX3_stopOrTravel 23 = .ok (.istore_n 3, 1) := by decide +kernel
theorem dX3_stopOrTravel_24 : decode cX3_stopOrTravel 24 = .ok (.aload_n 0, 1) := by decide +kernel
theorem dX3_stopOrTravel_25 : decode cX3_stopOrTravel 25 = .ok (.getfield 25, 3) := by decide +kernel
theorem dX3_stopOrTravel_28 : decode cX3_stopOrTravel 28 = .ok (.iload_n 1, 1) := by decide +kernel
theorem dX3_stopOrTravel_29 : decode cX3_stopOrTravel 29 = .ok (.iload_n 2, 1) := by decide +kernel
theorem dX3_stopOrTravel_30 : decode cX3_stopOrTravel 30 = .ok (.aload_n 0, 1) := by decide +kernel
theorem dX3_stopOrTravel_31 : decode cX3_stopOrTravel 31 = .ok (.getfield 18, 3) := by decide +kernel
theorem dX3_stopOrTravel_34 : decode cX3_stopOrTravel 34 = .ok (.getfield 115, 3) := by decide +kernel
theorem dX3_stopOrTravel_37 : decode cX3_stopOrTravel 37 = .ok (.iload_n 1, 1) := by decide +kernel
theorem dX3_stopOrTravel_38 : decode cX3_stopOrTravel 38 = .ok (.iaload, 1) := by decide +kernel
theorem dX3_stopOrTravel_39 : decode cX3_stopOrTravel 39 = .ok (.aload_n 0, 1) := by decide +kernel
theorem dX3_stopOrTravel_40 : decode cX3_stopOrTravel 40 = .ok (.getfield 29, 3) := by decide +kernel
theorem dX3_stopOrTravel_43 : decode cX3_stopOrTravel 43 = .ok (.invokevirtual 118, 3) := by decide +kernel
theorem dX3_stopOrTravel_46 : decode cX3_stopOrTravel 46 = .ok (.istore 4, 2) := by decide +kernel
theorem dX3_stopOrTravel_48 : decode cX3_stopOrTravel 48 = .ok (.iload_n 3, 1) := by decide +kernel
theorem dX3_stopOrTravel_49 : decode cX3_stopOrTravel 49 = .ok (.iload 4, 2) := by decide +kernel
theorem dX3_stopOrTravel_51 : decode cX3_stopOrTravel 51 = .ok (.iadd, 1) := by decide +kernel
theorem dX3_stopOrTravel_52 : decode cX3_stopOrTravel 52 = .ok (.ifCond .le 17, 3) := by decide +kernel
theorem dX3_stopOrTravel_55 : decode cX3_stopOrTravel 55 = .ok (.aload_n 0, 1) := by decide +kernel
theorem dX3_stopOrTravel_56 : decode cX3_stopOrTravel 56 = .ok (.getfield 18, 3) := by decide +kernel
theorem dX3_stopOrTravel_59 : decode cX3_stopOrTravel 59 = .ok (.dup, 1) := by decide +kernel
theorem dX3_stopOrTravel_60 : decode cX3_stopOrTravel 60 = .ok (.getfield 122, 3) := by decide +kernel
theorem dX3_stopOrTravel_63 : decode cX3_stopOrTravel 63 = .ok (.iconst 1, 1) := by decide +kernel
theorem dX3_stopOrTravel_64 : decode cX3_stopOrTravel 64 = .ok (.iadd, 1) := by decide +kernel
theorem dX3_stopOrTravel_65 : decode cX3_stopOrTravel 65 = .ok (.putfield 122, 3) := by decide +kernel
theorem dX3_stopOrTravel_68 : decode cX3_stopOrTravel 68 = .ok (.return_, 1) := by decide +kernel
theorem dX3_stopOrTravel_69 : decode cX3_stopOrTravel 69 = .ok (.aload_n 0, 1) := by decide +kernel
theorem dX3_stopOrTravel_70 : decode cX3_stopOrTravel 70 = .ok (.getfield 25, 3) := by decide +kernel
theorem dX3_stopOrTravel_73 : decode cX3_stopOrTravel 73 = .ok (.iload_n 1, 1) := by decide +kernel
theorem dX3_stopOrTravel_74 : decode cX3_stopOrTravel 74 = .ok (.iload_n 2, 1) := by decide +kernel
theorem dX3_stopOrTravel_75 : decode cX3_stopOrTravel 75 = .ok (.invokevirtual 125, 3) := by decide +kernel
theorem dX3_stopOrTravel_78 : decode cX3_stopOrTravel 78 = .ok (.istore 5, 2) := by decide +kernel
theorem dX3_stopOrTravel_80 : decode cX3_stopOrTravel 80 = .ok (.iload 5, 2) := by decide +kernel
theorem dX3_stopOrTravel_82 : decode cX3_stopOrTravel 82 = .ok (.bipush (-9), 2) := by decide +kernel
theorem dX3_stopOrTravel_84 : decode cX3_stopOrTravel 84 = .ok (.if_icmp .eq 13, 3) := by decide +kernel
theorem dX3_stopOrTravel_87 : decode cX3_stopOrTravel 87 = .ok (.aload_n 0, 1) := by decide +kernel
theorem dX3_stopOrTravel_88 : decode cX3_stopOrTravel 88 = .ok (.getfield 18, 3) := by decide +kernel
theorem dX3_stopOrTravel_91 : decode cX3_stopOrTravel 91 = .ok (.iload_n 1, 1) := by decide +kernel
theorem dX3_stopOrTravel_92 : decode cX3_stopOrTravel 92 = .ok (.iload 5, 2) := by decide +kernel
theorem dX3_stopOrTravel_94 : decode cX3_stopOrTravel 94 = .ok (.invokevirtual 128, 3) := by decide +kernel
theorem dX3_stopOrTravel_97 : decode cX3_stopOrTravel 97 = .ok (.return_, 1) := by decide +kernel
set_option maxRecDepth 20000 in
theorem ggX3_breakCar_X0_loseCar : GoodIn wsX3_breakCar wsX0_loseCar := goodIn_r _ [10, 11, 12, 13, 14, 15, 16, 17, 18, 19, 9, 20, 21, 22, 23, 24, 37, 38, 39, 40, 41, 42, 43, 44, 45] (by decide +kernel) (by decide +kernel)
set_option maxRecDepth 20000 in
theorem gX3_breakCar_X0_loseCar : GoodIn wsX3_breakCar (wsV RX3 131 RX0 yX0_loseCar wsX0_loseCar) := goodIn_app (goodIn_of _ (by decide +kernel)) ggX3_breakCar_X0_loseCar
theorem dX3_breakCar_0 : decode cX3_breakCar 0 = .ok (.aload_n 0, 1) := by decide +kernel
theorem dX3_breakCar_1 : decode cX3_breakCar 1 = .ok (.getfield 18, 3) := by decide +kernel
theorem dX3_breakCar_4 : decode cX3_breakCar 4 = .ok (.getfield 50, 3) := by decide +kernel
theorem dX3_breakCar_7 : decode cX3_breakCar 7 = .ok (.iload_n 1, 1) := by decide +kernel
theorem dX3_breakCar_8 : decode cX3_breakCar 8 = .ok (.iconst 2, 1) := by decide +kernel
theorem dX3_breakCar_9 : decode cX3_breakCar 9 = .ok (.iastore, 1) := by decide +kernel
theorem dX3_breakCar_10 : decode cX3_breakCar 10 = .ok (.aload_n 0, 1) := by decide +kernel
theorem dX3_breakCar_11 : decode cX3_breakCar 11 = .ok (.getfield 25, 3) := by decide +kernel
theorem dX3_breakCar_14 : decode cX3_breakCar 14 = .ok (.iload_n 1, 1) := by decide +kernel
theorem dX3_breakCar_15 : decode cX3_breakCar 15 = .ok (.aload_n 0, 1) := by decide +kernel
theorem dX3_breakCar_16 : decode cX3_breakCar 16 = .ok (.getfield 18, 3) := by decide +kernel
theorem dX3_breakCar_19 : decode cX3_breakCar 19 = .ok (.getfield 61, 3) := by decide +kernel
theorem dX3_breakCar_22 : decode cX3_breakCar 22 = .ok (.iload_n 1, 1) := by decide +kernel
theorem dX3_breakCar_23 : decode cX3_breakCar 23 = .ok (.iaload, 1) := by decide +kernel
theorem dX3_breakCar_24 : decode cX3_breakCar 24 = .ok (.aload_n 0, 1) := by decide +kernel
theorem dX3_breakCar_25 : decode cX3_breakCar 25 = .ok (.getfield 29, 3) := by decide +kernel
theorem dX3_breakCar_28 : decode cX3_breakCar 28 = .ok (.invokevirtual 131, 3) := by decide +kernel
theorem dX3_breakCar_31 : decode cX3_breakCar 31 = .ok (.return_, 1) := by decide +kernel
theorem dJ6_bitCount_0f7a4_0 : decode cJ6_bitCount_0f7a4 0 = .ok (.iload_n 0, 1) := by decide +kernel
theorem dJ6_bitCount_0f7a4_1 : decode cJ6_bitCount_0f7a4 1 = .ok (.iload_n 0, 1) := by decide +kernel
theorem dJ6_bitCount_0f7a4_2 : decode cJ6_bitCount_0f7a4 2 = .ok (.iconst 1, 1) := by decide +kernel
theorem dJ6_bitCount_0f7a4_3 : decode cJ6_bitCount_0f7a4 3 = .ok (.iushr, 1) := by decide +kernel
theorem dJ6_bitCount_0f7a4_4 : decode cJ6_bitCount_0f7a4 4 = .ok (.ldc_w 265, 3) := by decide +kernel
theorem dJ6_bitCount_0f7a4_7 : decode cJ6_bitCount_0f7a4 7 = .ok (.iand, 1) := by decide +kernel
theorem dJ6_bitCount_0f7a4_8 : decode cJ6_bitCount_0f7a4 8 = .ok (.isub, 1) := by decide +kernel
theorem dJ6_bitCount_0f7a4_9 : decode cJ6_bitCount_0f7a4 9 = .ok (.istore_n 0, 1) := by decide +kernel
theorem dJ6_bitCount_0f7a4_10 : decode cJ6_bitCount_0f7a4 10 = .ok (.iload_n 0, 1) := by decide +kernel
theorem dJ6_bitCount_0f7a4_11 : decode cJ6_bitCount_0f7a4 11 = .ok (.ldc_w 266, 3) := by decide +kernel
theorem dJ6_bitCount_0f7a4_14 : decode cJ6_bitCount_0f7a4 14 = .ok (.iand, 1) := by decide +kernel
theorem dJ6_bitCount_0f7a4_15 : decode cJ6_bitCount_0f7a4 15 = .ok (.iload_n 0, 1) := by decide +kernel
theorem dJ6_bitCount_0f7a4_16 : decode cJ6_bitCount_0f7a4 16 = .ok (.iconst 2, 1) := by decide +kernel
theorem dJ6_bitCount_0f7a4_17 : decode cJ6_bitCount_0f7a4 17 = .ok (.iushr, 1) := by decide +kernel
theorem dJ6_bitCount_0f7a4_18 : decode cJ6_bitCount_0f7a4 18 = .ok (.ldc_w 266, 3) := by decide +kernel
theorem dJ6_bitCount_0f7a4_21 : decode cJ6_bitCount_0f7a4 21 = .ok (.iand, 1) := by decide +kernel
theorem dJ6_bitCount_0f7a4_22 : decode cJ6_bitCount_0f7a4 22 = .ok (.iadd, 1) := by decide +kernel
theorem dJ6_bitCount_0f7a4_23 : decode cJ6_bitCount_0f7a4 23 = .ok (.istore_n 0, 1) := by decide +kernel
theorem dJ6_bitCount_0f7a4_24 : decode cJ6_bitCount_0f7a4 24 = .ok (.iload_n 0, 1) := by decide +kernel
theorem dJ6_bitCount_0f7a4_25 : decode cJ6_bitCount_0f7a4 25 = .ok (.iload_n 0, 1) := by decide +kernel
theorem dJ6_bitCount_0f7a4_26 : decode cJ6_bitCount_0f7a4 26 = .ok (.iconst 4, 1) := by decide +kernel
theorem dJ6_bitCount_0f7a4_27 : decode cJ6_bitCount_0f7a4 27 = .ok (.iushr, 1) := by decide +kernel
theorem dJ6_bitCount_0f7a4_28 : decode cJ6_bitCount_0f7a4 28 = .ok (.iadd, 1) := by decide +kernel
theorem dJ6_bitCount_0f7a4_29 : decode cJ6_bitCount_0f7a4 29 = .ok (.ldc_w 267, 3) := by decide +kernel
theorem dJ6_bitCount_0f7a4_32 : decode cJ6_bitCount_0f7a4 32 = .ok (.iand, 1) := by decide +kernel
theorem dJ6_bitCount_0f7a4_33 : decode cJ6_bitCount_0f7a4 33 = .ok (.istore_n 0, 1) := by decide +kernel
theorem dJ6_bitCount_0f7a4_34 : decode cJ6_bitCount_0f7a4 34 = .ok (.iload_n 0, 1) := by decide +kernel
theorem dJ6_bitCount_0f7a4_35 : decode cJ6_bitCount_0f7a4 35 = .ok (.iload_n 0, 1) := by decide +kernel
theorem dJ6_bitCount_0f7a4_36 : decode cJ6_bitCount_0f7a4 36 = .ok (.bipush 8, 2) := by decide +kernel
theorem dJ6_bitCount_0f7a4_38 : decode cJ6_bitCount_0f7a4 38 = .ok (.iushr, 1) := by decide +kernel
theorem dJ6_bitCount_0f7a4_39 : decode cJ6_bitCount_0f7a4 39 = .ok (.iadd, 1) := by decide +kernel
theorem dJ6_bitCount_0f7a4_40 : decode cJ6_bitCount_0f7a4 40 = .ok (.istore_n 0, 1) := by decide +kernel
theorem dJ6_bitCount_0f7a4_41 : decode cJ6_bitCount_0f7a4 41 = .ok (.iload_n 0, 1) := by decide +kernel
theorem dJ6_bitCount_0f7a4_42 : decode cJ6_bitCount_0f7a4 42 = .ok (.iload_n 0, 1) := by decide +kernel
theorem dJ6_bitCount_0f7a4_43 : decode cJ6_bitCount_0f7a4 43 = .ok (.bipush 16, 2) := by decide +kernel
theorem dJ6_bitCount_0f7a4_45 : decode cJ6_bitCount_0f7a4 45 = .ok (.iushr, 1) := by decide +kernel
theorem dJ6_bitCount_0f7a4_46 : decode cJ6_bitCount_0f7a4 46 = .ok (.iadd, 1) := by decide +kernel
theorem dJ6_bitCount_0f7a4_47 : decode cJ6_bitCount_0f7a4 47 = .ok (.istore_n 0, 1) := by decide +kernel
theorem dJ6_bitCount_0f7a4_48 : decode cJ6_bitCount_0f7a4 48 = .ok (.iload_n 0, 1) := by decide +kernel
theorem dJ6_bitCount_0f7a4_49 : decode cJ6_bitCount_0f7a4 49 = .ok (.bipush 63, 2) := by decide +kernel
theorem dJ6_bitCount_0f7a4_51 : decode cJ6_bitCount_0f7a4 51 = .ok (.iand, 1) := by decide +kernel
theorem dJ6_bitCount_0f7a4_52 : decode cJ6_bitCount_0f7a4 52 = .ok (.ireturn, 1) := by decide +kernel
theorem dJ9_floorMod_7cf53_0 : decode cJ9_floorMod_7cf53 0 = .ok (.iload_n 0, 1) := by decide +kernel
theorem dJ9_floorMod_7cf53_1 : decode cJ9_floorMod_7cf53 1 = .ok (.iload_n 1, 1) := by decide +kernel
theorem dJ9_floorMod_7cf53_2 : decode cJ9_floorMod_7cf53 2 = .ok (.irem, 1) := by decide +kernel
theorem dJ9_floorMod_7cf53_3 : decode cJ9_floorMod_7cf53 3 = .ok (.istore_n 2, 1) := by decide +kernel
theorem dJ9_floorMod_7cf53_4 : decode cJ9_floorMod_7cf53 4 = .ok (.iload_n 0, 1) := by decide +kernel
theorem dJ9_floorMod_7cf53_5 : decode cJ9_floorMod_7cf53 5 = .ok (.iload_n 1, 1) := by decide +kernel
theorem dJ9_floorMod_7cf53_6 : decode cJ9_floorMod_7cf53 6 = .ok (.ixor, 1) := by decide +kernel
theorem dJ9_floorMod_7cf53_7 : decode cJ9_floorMod_7cf53 7 = .ok (.ifCond .ge 11, 3) := by decide +kernel
theorem dJ9_floorMod_7cf53_10 : decode cJ9_floorMod_7cf53 10 = .ok (.iload_n 2, 1) := by decide +kernel
theorem dJ9_floorMod_7cf53_11 : decode cJ9_floorMod_7cf53 11 = .ok (.ifCond .eq 7, 3) := by decide +kernel
theorem dJ9_floorMod_7cf53_14 : decode cJ9_floorMod_7cf53 14 = .ok (.iload_n 2, 1) := by decide +kernel
theorem dJ9_floorMod_7cf53_15 : decode cJ9_floorMod_7cf53 15 = .ok (.iload_n 1, 1) := by decide +kernel
theorem dJ9_floorMod_7cf53_16 : decode cJ9_floorMod_7cf53 16 = .ok (.iadd, 1) := by decide +kernel
theorem dJ9_floorMod_7cf53_17 : decode cJ9_floorMod_7cf53 17 = .ok (.ireturn, 1) := by decide +kernel
theorem dJ9_floorMod_7cf53_18 : decode cJ9_floorMod_7cf53 18 = .ok (.iload_n 2, 1) := by decide +kernel
theorem dJ9_floorMod_7cf53_19 : decode cJ9_floorMod_7cf53 19 = .ok (.ireturn, 1) := by decide +kernel
theorem dJ9_abs_0f7a4_0 : decode cJ9_abs_0f7a4 0 = .ok (.iload_n 0, 1) := by decide +kernel
theorem dJ9_abs_0f7a4_1 : decode cJ9_abs_0f7a4 1 = .ok (.ifCond .ge 8, 3) := by decide +kernel
theorem dJ9_abs_0f7a4_4 : decode cJ9_abs_0f7a4 4 = .ok (.iload_n 0, 1) := by decide +kernel
theorem dJ9_abs_0f7a4_5 : decode cJ9_abs_0f7a4 5 = .ok (.ineg, 1) := by decide +kernel
theorem dJ9_abs_0f7a4_6 : decode cJ9_abs_0f7a4 6 = .ok (.goto 4, 3) := by decide +kernel
theorem dJ9_abs_0f7a4_9 : decode cJ9_abs_0f7a4 9 = .ok (.iload_n 0, 1) := by decide +kernel
theorem dJ9_abs_0f7a4_10 : decode cJ9_abs_0f7a4 10 = .ok (.ireturn, 1) := by decide +kernel
theorem dJ9_min_7cf53_0 : decode cJ9_min_7cf53 0 = .ok (.iload_n 0, 1) := by decide +kernel
theorem dJ9_min_7cf53_1 : decode cJ9_min_7cf53 1 = .ok (.iload_n 1, 1) := by decide +kernel
theorem dJ9_min_7cf53_2 : decode cJ9_min_7cf53 2 = .ok (.if_icmp .gt 7, 3) := by decide +kernel
theorem dJ9_min_7cf53_5 : decode cJ9_min_7cf53 5 = .ok (.iload_n 0, 1) := by decide +kernel
theorem dJ9_min_7cf53_6 : decode cJ9_min_7cf53 6 = .ok (.goto 4, 3) := by decide +kernel
theorem dJ9_min_7cf53_9 : decode cJ9_min_7cf53 9 = .ok (.iload_n 1, 1) := by decide +kernel
theorem dJ9_min_7cf53_10 : decode cJ9_min_7cf53 10 = .ok (.ireturn, 1) := by decide +kernel
end
section
set_option maxRecDepth 20000 in
theorem ggX4_init_X3_init : GoodIn wsX4_init wsX3_init := goodIn_r _ [15, 16, 2, 3, 17, 18, 19, 20, 21, 22, 23, 24, 25, 26, 27, 28, 29, 30, 31, 32, 33, 34, 35, 36, 37, 38, 39, 40, 41, 42, 43, 44, 45, 46, 54, 55, 56, 57, 64, 65, 66, 67, 68, 69, 70, 71, 72, 73, 74, 75, 76, 77, 78, 79, 80] (by decide +kernel) (by decide +kernel)
set_option maxRecDepth 20000 in
theorem gX4_init_X3_init : GoodIn wsX4_init (wsX3_init) := ggX4_init_X3_init
set_option maxRecDepth 20000 in
theorem ggX4_init_X2_init : GoodIn wsX4_init wsX2_init := goodIn_r _ [49, 50, 2, 3, 51, 52, 5, 6, 53, 14, 15, 16, 17, 18, 19, 20, 21, 22, 23, 24, 25, 26, 27, 28, 29, 30, 31, 32, 33, 34, 35, 36, 37, 38, 39, 40, 41, 42, 43, 44, 45, 46, 61, 62, 63, 54, 55, 56, 57, 64, 65, 66, 67, 68, 69, 70, 71, 72, 73, 74, 75, 76, 77, 78, 79, 80] (by decide +kernel) (by decide +kernel)
set_option maxRecDepth 20000 in
theorem gX4_init_X2_init : GoodIn wsX4_init (wsX2_init) := ggX4_init_X2_init
theorem dX4_init_0 : decode cX4_init 0 = .ok (.aload_n 0, 1) := by decide +kernel
theorem dX4_init_1 : decode cX4_init 1 = .ok (.invokespecial 1, 3) := by decide +kernel
theorem dX4_init_4 : decode cX4_init 4 = .ok (.aload_n 0, 1) := by decide +kernel
theorem dX4_init_5 : decode cX4_init 5 = .ok (.new 7, 3) := by decide +kernel
theorem dX4_init_8 : decode cX4_init 8 = .ok (.dup, 1) := by decide +kernel
theorem dX4_init_9 : decode cX4_init 9 = .ok (.invokespecial 9, 3) := by decide +kernel
theorem dX4_init_12 : decode cX4_init 12 = .ok (.putfield 10, 3) := by decide +kernel
theorem dX4_init_15 : decode cX4_init 15 = .ok (.aload_n 0, 1) := by decide +kernel
theorem dX4_init_16 : decode cX4_init 16 = .ok (.new 7, 3) := by decide +kernel
theorem dX4_init_19 : decode cX4_init 19 = .ok (.dup, 1) := by decide +kernel
theorem dX4_init_20 : decode cX4_init 20 = .ok (.invokespecial 9, 3) := by decide +kernel
theorem dX4_init_23 : decode cX4_init 23 = .ok (.putfield 16, 3) := by decide +kernel
theorem dX4_init_26 : decode cX4_init 26 = .ok (.aload_n 0, 1) := by decide +kernel
theorem dX4_init_27 : decode cX4_init 27 = .ok (.new 19, 3) := by decide +kernel
theorem dX4_init_30 : decode cX4_init 30 = .ok (.dup, 1) := by decide +kernel
theorem dX4_init_31 : decode cX4_init 31 = .ok (.invokespecial 21, 3) := by decide +kernel
theorem dX4_init_34 : decode cX4_init 34 = .ok (.putfield 22, 3) := by decide +kernel
theorem dX4_init_37 : decode cX4_init 37 = .ok (.return_, 1) := by decide +kernel
set_option maxRecDepth 20000 in
theorem ggX4_addCar_X4_isFloor : GoodIn wsX4_addCar wsX4_isFloor := goodIn_r _ [8] (by decide +kernel) (by decide +kernel)
set_option maxRecDepth 20000 in
theorem gX4_addCar_X4_isFloor : GoodIn wsX4_addCar (va_wsS RX4 26 yX4_isFloor wsX4_isFloor) := goodIn_app (goodIn_of _ (by decide +kernel)) ggX4_addCar_X4_isFloor
set_option maxRecDepth 20000 in
theorem ggX4_addCar_X2_keep : GoodIn wsX4_addCar wsX2_keep := goodIn_r _ [13, 14, 15, 16, 17, 18, 19, 20, 21, 22, 23, 24, 25, 26, 27, 28, 29, 30, 31, 32, 33, 34, 35, 36, 37, 38, 39, 40, 41, 42, 43, 44, 45, 46, 47, 48, 49, 50, 51, 52, 53, 54, 55, 56, 57, 58, 59, 60, 61, 62, 63, 64, 65, 66, 86, 87, 88, 74, 75, 76, 77, 78, 79, 80, 81, 82, 83, 84, 85, 89, 90, 91, 92, 93, 94, 95, 96, 97] (by decide +kernel) (by decide +kernel)
set_option maxRecDepth 20000 in
theorem gX4_addCar_X2_keep : GoodIn wsX4_addCar (wsV RX4 40 RX2 yX2_keep wsX2_keep) := goodIn_app (goodIn_of _ (by decide +kernel)) ggX4_addCar_X2_keep
set_option maxRecDepth 20000 in
theorem ggX4_addCar_X1_add : GoodIn wsX4_addCar wsX1_add := goodIn_r _ [70, 39, 41, 43, 44, 45, 46, 47, 78, 79, 80, 81, 82, 83, 84, 85] (by decide +kernel) (by decide +kernel)
set_option maxRecDepth 20000 in
theorem gX4_addCar_X1_add : GoodIn wsX4_addCar (wsV RX4 44 RX1 yX1_add wsX1_add) := goodIn_app (goodIn_of _ (by decide +kernel)) ggX4_addCar_X1_add
theorem dX4_addCar_0 : decode cX4_addCar 0 = .ok (.iload_n 1, 1) := by decide +kernel
theorem dX4_addCar_1 : decode cX4_addCar 1 = .ok (.invokestatic 26, 3) := by decide +kernel
theorem dX4_addCar_4 : decode cX4_addCar 4 = .ok (.ifCond .eq 15, 3) := by decide +kernel
theorem dX4_addCar_7 : decode cX4_addCar 7 = .ok (.iload_n 2, 1) := by decide +kernel
theorem dX4_addCar_8 : decode cX4_addCar 8 = .ok (.invokestatic 26, 3) := by decide +kernel
theorem dX4_addCar_11 : decode cX4_addCar 11 = .ok (.ifCond .eq 8, 3) := by decide +kernel
theorem dX4_addCar_14 : decode cX4_addCar 14 = .ok (.iload_n 2, 1) := by decide +kernel
theorem dX4_addCar_15 : decode cX4_addCar 15 = .ok (.iload_n 1, 1) := by decide +kernel
theorem dX4_addCar_16 : decode cX4_addCar 16 = .ok (.if_icmp .gt 5, 3) := by decide +kernel
theorem dX4_addCar_19 : decode cX4_addCar 19 = .ok (.iconst (-1), 1) := by decide +kernel
theorem dX4_addCar_20 : decode cX4_addCar 20 = .ok (.ireturn, 1) := by decide +kernel
theorem dX4_addCar_21 : decode cX4_addCar 21 = .ok (.iload_n 3, 1) := by decide +kernel
theorem dX4_addCar_22 : decode cX4_addCar 22 = .ok (.iconst 1, 1) := by decide +kernel
theorem dX4_addCar_23 : decode cX4_addCar 23 = .ok (.if_icmp .lt 9, 3) := by decide +kernel
theorem dX4_addCar_26 : decode cX4_addCar 26 = .ok (.iload_n 3, 1) := by decide +kernel
theorem dX4_addCar_27 : decode cX4_addCar 27 = .ok (.bipush 8, 2) := by decide +kernel
theorem dX4_addCar_29 : decode cX4_addCar 29 = .ok (.if_icmp .le 5, 3) := by decide +kernel
theorem dX4_addCar_32 : decode cX4_addCar 32 = .ok (.iconst (-1), 1) := by decide +kernel
theorem dX4_addCar_33 : decode cX4_addCar 33 = .ok (.ireturn, 1) := by decide +kernel
theorem dX4_addCar_34 : decode cX4_addCar 34 = .ok (.aload_n 0, 1) := by decide +kernel
theorem dX4_addCar_35 : decode cX4_addCar 35 = .ok (.getfield 10, 3) := by decide +kernel
theorem dX4_addCar_38 : decode cX4_addCar 38 = .ok (.getfield 30, 3) := by decide +kernel
theorem dX4_addCar_41 : decode cX4_addCar 41 = .ok (.getfield 34, 3) := by decide +kernel
theorem dX4_addCar_44 : decode cX4_addCar 44 = .ok (.iconst 5, 1) := by decide +kernel
theorem dX4_addCar_45 : decode cX4_addCar 45 = .ok (.if_icmp .lt 6, 3) := by decide +kernel
theorem dX4_addCar_48 : decode cX4_addCar 48 = .ok (.bipush (-3), 2) := by decide +kernel
theorem dX4_addCar_50 : decode cX4_addCar 50 = .ok (.ireturn, 1) := by decide +kernel
theorem dX4_addCar_51 : decode cX4_addCar 51 = .ok (.aload_n 0, 1) := by decide +kernel
theorem dX4_addCar_52 : decode cX4_addCar 52 = .ok (.getfield 22, 3) := by decide +kernel
theorem dX4_addCar_55 : decode cX4_addCar 55 = .ok (.aload_n 0, 1) := by decide +kernel
theorem dX4_addCar_56 : decode cX4_addCar 56 = .ok (.getfield 10, 3) := by decide +kernel
theorem dX4_addCar_59 : decode cX4_addCar 59 = .ok (.invokevirtual 40, 3) := by decide +kernel
theorem dX4_addCar_62 : decode cX4_addCar 62 = .ok (.aload_n 0, 1) := by decide +kernel
theorem dX4_addCar_63 : decode cX4_addCar 63 = .ok (.getfield 10, 3) := by decide +kernel
theorem dX4_addCar_66 : decode cX4_addCar 66 = .ok (.getfield 30, 3) := by decide +kernel
theorem dX4_addCar_69 : decode cX4_addCar 69 = .ok (.iload_n 1, 1) := by decide +kernel
theorem dX4_addCar_70 : decode cX4_addCar 70 = .ok (.iload_n 2, 1) := by decide +kernel
theorem dX4_addCar_71 : decode cX4_addCar 71 = .ok (.iload_n 3, 1) := by decide +kernel
theorem dX4_addCar_72 : decode cX4_addCar 72 = .ok (.invokevirtual 44, 3) := by decide +kernel
theorem dX4_addCar_75 : decode cX4_addCar 75 = .ok (.ireturn, 1) := by decide +kernel
set_option maxRecDepth 20000 in
theorem ggX4_setAwake_X2_keep : GoodIn wsX4_setAwake wsX2_keep := goodIn_r _ [8, 9, 10, 11, 12, 13, 14, 15, 16, 17, 18, 19, 20, 21, 22, 23, 24, 25, 26, 27, 28, 29, 30, 31, 32, 33, 34, 35, 36, 37, 38, 39, 40, 41, 42, 43, 44, 45, 46, 47, 48, 49, 50, 51, 52, 53, 54, 55, 56, 57, 58, 59, 60, 61, 69, 70, 71, 65, 66, 67, 68, 72, 73, 74, 75, 76, 77, 78, 79, 80, 81, 82, 83, 84, 85, 86, 87, 88] (by decide +kernel) (by decide +kernel)
set_option maxRecDepth 20000 in
theorem gX4_setAwake_X2_keep : GoodIn wsX4_setAwake (wsV RX4 40 RX2 yX2_keep wsX2_keep) := goodIn_app (goodIn_of _ (by decide +kernel)) ggX4_setAwake_X2_keep
theorem dX4_setAwake_0 : decode cX4_setAwake 0 = .ok (.iload_n 1, 1) := by decide +kernel
theorem dX4_setAwake_1 : decode cX4_setAwake 1 = .ok (.ifCond .lt 19, 3) := by decide +kernel
theorem dX4_setAwake_4 : decode cX4_setAwake 4 = .ok (.iload_n 1, 1) := by decide +kernel
theorem dX4_setAwake_5 : decode cX4_setAwake 5 = .ok (.bipush 24, 2) := by decide +kernel
theorem dX4_setAwake_7 : decode cX4_setAwake 7 = .ok (.if_icmp .ge 13, 3) := by decide +kernel
theorem dX4_setAwake_10 : decode cX4_setAwake 10 = .ok (.iload_n 2, 1) := by decide +kernel
theorem dX4_setAwake_11 : decode cX4_setAwake 11 = .ok (.iconst 1, 1) := by decide +kernel
theorem dX4_setAwake_12 : decode cX4_setAwake 12 = .ok (.if_icmp .lt 8, 3) := by decide +kernel
theorem dX4_setAwake_15 : decode cX4_setAwake 15 = .ok (.iload_n 2, 1) := by decide +kernel
theorem dX4_setAwake_16 : decode cX4_setAwake 16 = .ok (.iconst 5, 1) := by decide +kernel
theorem dX4_setAwake_17 : decode cX4_setAwake 17 = .ok (.if_icmp .le 5, 3) := by decide +kernel
theorem dX4_setAwake_20 : decode cX4_setAwake 20 = .ok (.iconst (-1), 1) := by decide +kernel
theorem dX4_setAwake_21 : decode cX4_setAwake 21 = .ok (.ireturn, 1) := by decide +kernel
theorem dX4_setAwake_22 : decode cX4_setAwake 22 = .ok (.aload_n 0, 1) := by decide +kernel
theorem dX4_setAwake_23 : decode cX4_setAwake 23 = .ok (.getfield 22, 3) := by decide +kernel
theorem dX4_setAwake_26 : decode cX4_setAwake 26 = .ok (.aload_n 0, 1) := by decide +kernel
theorem dX4_setAwake_27 : decode cX4_setAwake 27 = .ok (.getfield 10, 3) := by decide +kernel
theorem dX4_setAwake_30 : decode cX4_setAwake 30 = .ok (.invokevirtual 40, 3) := by decide +kernel
theorem dX4_setAwake_33 : decode cX4_setAwake 33 = .ok (.aload_n 0, 1) := by decide +kernel
theorem dX4_setAwake_34 : decode cX4_setAwake 34 = .ok (.getfield 10, 3) := by decide +kernel
theorem dX4_setAwake_37 : decode cX4_setAwake 37 = .ok (.getfield 48, 3) := by decide +kernel
theorem dX4_setAwake_40 : decode cX4_setAwake 40 = .ok (.iload_n 1, 1) := by decide +kernel
theorem dX4_setAwake_41 : decode cX4_setAwake 41 = .ok (.iaload, 1) := by decide +kernel
theorem dX4_setAwake_42 : decode cX4_setAwake 42 = .ok (.istore_n 3, 1) := by decide +kernel
theorem dX4_setAwake_43 : decode cX4_setAwake 43 = .ok (.aload_n 0, 1) := by decide +kernel
theorem dX4_setAwake_44 : decode cX4_setAwake 44 = .ok (.getfield 10, 3) := by decide +kernel
theorem dX4_setAwake_47 : decode cX4_setAwake 47 = .ok (.getfield 48, 3) := by decide +kernel
theorem dX4_setAwake_50 : decode cX4_setAwake 50 = .ok (.iload_n 1, 1) := by decide +kernel
theorem dX4_setAwake_51 : decode cX4_setAwake 51 = .ok (.iload_n 2, 1) := by decide +kernel
theorem dX4_setAwake_52 : decode cX4_setAwake 52 = .ok (.iastore, 1) := by decide +kernel
theorem dX4_setAwake_53 : decode cX4_setAwake 53 = .ok (.iload_n 3, 1) := by decide +kernel
theorem dX4_setAwake_54 : decode cX4_setAwake 54 = .ok (.ireturn, 1) := by decide +kernel
set_option maxRecDepth 20000 in
theorem ggX4_hold_X1_has : GoodIn wsX4_hold wsX1_has := goodIn_r _ [10, 11, 83, 84, 85, 86, 87, 88, 89, 90] (by decide +kernel) (by decide +kernel)
set_option maxRecDepth 20000 in
theorem gX4_hold_X1_has : GoodIn wsX4_hold (wsV RX4 52 RX1 yX1_has wsX1_has) := goodIn_app (goodIn_of _ (by decide +kernel)) ggX4_hold_X1_has
set_option maxRecDepth 20000 in
theorem ggX4_hold_X2_keep : GoodIn wsX4_hold wsX2_keep := goodIn_r _ [16, 17, 18, 19, 20, 21, 22, 23, 24, 25, 26, 27, 28, 29, 30, 31, 32, 33, 34, 35, 36, 37, 38, 39, 9, 40, 11, 41, 42, 43, 44, 45, 46, 47, 48, 49, 50, 51, 52, 53, 54, 55, 56, 57, 58, 59, 60, 61, 62, 63, 64, 65, 66, 67, 91, 92, 93, 79, 80, 81, 82, 83, 84, 85, 86, 87, 88, 89, 90, 94, 95, 96, 97, 98, 99, 100, 101, 102] (by decide +kernel) (by decide +kernel)
set_option maxRecDepth 20000 in
theorem gX4_hold_X2_keep : GoodIn wsX4_hold (wsV RX4 40 RX2 yX2_keep wsX2_keep) := goodIn_app (goodIn_of _ (by decide +kernel)) ggX4_hold_X2_keep
set_option maxRecDepth 20000 in
theorem ggX4_hold_X0_numberWith : GoodIn wsX4_hold wsX0_numberWith := goodIn_r _ [71, 72, 73, 74, 52, 75, 54, 58, 59, 94, 95, 96, 97, 98, 99, 100, 101, 102] (by decide +kernel) (by decide +kernel)
set_option maxRecDepth 20000 in
theorem gX4_hold_X0_numberWith : GoodIn wsX4_hold (wsV RX4 62 RX0 yX0_numberWith wsX0_numberWith) := goodIn_app (goodIn_of _ (by decide +kernel)) ggX4_hold_X0_numberWith
theorem dX4_hold_0 : decode cX4_hold 0 = .ok (.aload_n 0, 1) := by decide +kernel
theorem dX4_hold_1 : decode cX4_hold 1 = .ok (.getfield 10, 3) := by decide +kernel
theorem dX4_hold_4 : decode cX4_hold 4 = .ok (.getfield 30, 3) := by decide +kernel
theorem dX4_hold_7 : decode cX4_hold 7 = .ok (.iload_n 1, 1) := by decide +kernel
theorem dX4_hold_8 : decode cX4_hold 8 = .ok (.invokevirtual 52, 3) := by decide +kernel
theorem dX4_hold_11 : decode cX4_hold 11 = .ok (.ifCond .eq 12, 3) := by decide +kernel
theorem dX4_hold_14 : decode cX4_hold 14 = .ok (.iload_n 2, 1) := by decide +kernel
theorem dX4_hold_15 : decode cX4_hold 15 = .ok (.ifCond .lt 8, 3) := by decide +kernel
theorem dX4_hold_18 : decode cX4_hold 18 = .ok (.iload_n 2, 1) := by decide +kernel
theorem dX4_hold_19 : decode cX4_hold 19 = .ok (.iconst 1, 1) := by decide +kernel
theorem dX4_hold_20 : decode cX4_hold 20 = .ok (.if_icmp .le 5, 3) := by decide +kernel
theorem dX4_hold_23 : decode cX4_hold 23 = .ok (.iconst (-1), 1) := by decide +kernel
theorem dX4_hold_24 : decode cX4_hold 24 = .ok (.ireturn, 1) := by decide +kernel
theorem dX4_hold_25 : decode cX4_hold 25 = .ok (.iload_n 2, 1) := by decide +kernel
theorem dX4_hold_26 : decode cX4_hold 26 = .ok (.iconst 1, 1) := by decide +kernel
theorem dX4_hold_27 : decode cX4_hold 27 = .ok (.if_icmp .ne 7, 3) := by decide +kernel
theorem dX4_hold_30 : decode cX4_hold 30 = .ok (.iconst 1, 1) := by decide +kernel
theorem dX4_hold_31 : decode cX4_hold 31 = .ok (.goto 4, 3) := by decide +kernel
theorem dX4_hold_34 : decode cX4_hold 34 = .ok (.iconst 0, 1) := by decide +kernel
theorem dX4_hold_35 : decode cX4_hold 35 = .ok (.istore_n 3, 1) := by decide +kernel
theorem dX4_hold_36 : decode cX4_hold 36 = .ok (.aload_n 0, 1) := by decide +kernel
theorem dX4_hold_37 : decode cX4_hold 37 = .ok (.getfield 10, 3) := by decide +kernel
theorem dX4_hold_40 : decode cX4_hold 40 = .ok (.getfield 30, 3) := by decide +kernel
theorem dX4_hold_43 : decode cX4_hold 43 = .ok (.getfield 55, 3) := by decide +kernel
theorem dX4_hold_46 : decode cX4_hold 46 = .ok (.iload_n 1, 1) := by decide +kernel
theorem dX4_hold_47 : decode cX4_hold 47 = .ok (.iaload, 1) := by decide +kernel
theorem dX4_hold_48 : decode cX4_hold 48 = .ok (.istore 4, 2) := by decide +kernel
theorem dX4_hold_50 : decode cX4_hold 50 = .ok (.iload 4, 2) := by decide +kernel
theorem dX4_hold_52 : decode cX4_hold 52 = .ok (.iconst 2, 1) := by decide +kernel
theorem dX4_hold_53 : decode cX4_hold 53 = .ok (.if_icmp .eq 9, 3) := by decide +kernel
theorem dX4_hold_56 : decode cX4_hold 56 = .ok (.iload 4, 2) := by decide +kernel
theorem dX4_hold_58 : decode cX4_hold 58 = .ok (.iload_n 3, 1) := by decide +kernel
theorem dX4_hold_59 : decode cX4_hold 59 = .ok (.if_icmp .ne 6, 3) := by decide +kernel
theorem dX4_hold_62 : decode cX4_hold 62 = .ok (.bipush (-2), 2) := by decide +kernel
theorem dX4_hold_64 : decode cX4_hold 64 = .ok (.ireturn, 1) := by decide +kernel
theorem dX4_hold_65 : decode cX4_hold 65 = .ok (.aload_n 0, 1) := by decide +kernel
theorem dX4_hold_66 : decode cX4_hold 66 = .ok (.getfield 22, 3) := by decide +kernel
theorem dX4_hold_69 : decode cX4_hold 69 = .ok (.aload_n 0, 1) := by decide +kernel
theorem dX4_hold_70 : decode cX4_hold 70 = .ok (.getfield 10, 3) := by decide +kernel
theorem dX4_hold_73 : decode cX4_hold 73 = .ok (.invokevirtual 40, 3) := by decide +kernel
theorem dX4_hold_76 : decode cX4_hold 76 = .ok (.aload_n 0, 1) := by decide +kernel
theorem dX4_hold_77 : decode cX4_hold 77 = .ok (.getfield 10, 3) := by decide +kernel
theorem dX4_hold_80 : decode cX4_hold 80 = .ok (.getfield 30, 3) := by decide +kernel
theorem dX4_hold_83 : decode cX4_hold 83 = .ok (.getfield 55, 3) := by decide +kernel
theorem dX4_hold_86 : decode cX4_hold 86 = .ok (.iload_n 1, 1) := by decide +kernel
theorem dX4_hold_87 : decode cX4_hold 87 = .ok (.iload_n 3, 1) := by decide +kernel
theorem dX4_hold_88 : decode cX4_hold 88 = .ok (.iastore, 1) := by decide +kernel
theorem dX4_hold_89 : decode cX4_hold 89 = .ok (.aload_n 0, 1) := by decide +kernel
theorem dX4_hold_90 : decode cX4_hold 90 = .ok (.getfield 10, 3) := by decide +kernel
theorem dX4_hold_93 : decode cX4_hold 93 = .ok (.getfield 58, 3) := by decide +kernel
theorem dX4_hold_96 : decode cX4_hold 96 = .ok (.iload_n 1, 1) := by decide +kernel
theorem dX4_hold_97 : decode cX4_hold 97 = .ok (.invokevirtual 62, 3) := by decide +kernel
theorem dX4_hold_100 : decode cX4_hold 100 = .ok (.ireturn, 1) := by decide +kernel
set_option maxRecDepth 20000 in
theorem ggX4_fail_X1_has : GoodIn wsX4_fail wsX1_has := goodIn_r _ [10, 11, 97, 98, 99, 100, 101, 102, 103, 104] (by decide +kernel) (by decide +kernel)
set_option maxRecDepth 20000 in
theorem gX4_fail_X1_has : GoodIn wsX4_fail (wsV RX4 52 RX1 yX1_has wsX1_has) := goodIn_app (goodIn_of _ (by decide +kernel)) ggX4_fail_X1_has
set_option maxRecDepth 20000 in
theorem ggX4_fail_X2_keep : GoodIn wsX4_fail wsX2_keep := goodIn_r _ [16, 17, 18, 19, 20, 21, 22, 23, 24, 25, 26, 27, 28, 29, 30, 31, 32, 33, 34, 35, 36, 37, 38, 39, 9, 40, 11, 41, 42, 43, 44, 45, 46, 47, 48, 49, 50, 51, 52, 53, 54, 55, 56, 57, 58, 59, 60, 61, 62, 63, 64, 65, 66, 67, 105, 106, 107, 93, 94, 95, 96, 97, 98, 99, 100, 101, 102, 103, 104, 108, 109, 110, 111, 112, 113, 114, 115, 116] (by decide +kernel) (by decide +kernel)
set_option maxRecDepth 20000 in
theorem gX4_fail_X2_keep : GoodIn wsX4_fail (wsV RX4 40 RX2 yX2_keep wsX2_keep) := goodIn_app (goodIn_of _ (by decide +kernel)) ggX4_fail_X2_keep
set_option maxRecDepth 20000 in
theorem ggX4_fail_X3_breakCar : GoodIn wsX4_fail wsX3_breakCar := goodIn_r _ [71, 35, 72, 36, 73, 29, 74, 75, 76, 52, 77, 54, 55, 57, 58, 62, 59, 78, 79, 80, 81, 82, 83, 84, 85, 93, 94, 95, 96, 97, 98, 99, 100, 101, 102, 103, 104, 108, 109, 110, 111, 112, 113, 114, 115, 116] (by decide +kernel) (by decide +kernel)
set_option maxRecDepth 20000 in
theorem gX4_fail_X3_breakCar : GoodIn wsX4_fail (wsV RX4 68 RX3 yX3_breakCar wsX3_breakCar) := goodIn_app (goodIn_of _ (by decide +kernel)) ggX4_fail_X3_breakCar
set_option maxRecDepth 20000 in
theorem ggX4_fail_X0_numberIn : GoodIn wsX4_fail wsX0_numberIn := goodIn_r _ [89, 54, 58, 108, 109, 110, 111, 112, 113, 114, 115, 116] (by decide +kernel) (by decide +kernel)
set_option maxRecDepth 20000 in
theorem gX4_fail_X0_numberIn : GoodIn wsX4_fail (wsV RX4 72 RX0 yX0_numberIn wsX0_numberIn) := goodIn_app (goodIn_of _ (by decide +kernel)) ggX4_fail_X0_numberIn
theorem dX4_fail_0 : decode cX4_fail 0 = .ok (.aload_n 0, 1) := by decide +kernel
theorem dX4_fail_1 : decode cX4_fail 1 = .ok (.getfield 10, 3) := by decide +kernel
theorem dX4_fail_4 : decode cX4_fail 4 = .ok (.getfield 30, 3) := by decide +kernel
theorem dX4_fail_7 : decode cX4_fail 7 = .ok (.iload_n 1, 1) := by decide +kernel
theorem dX4_fail_8 : decode cX4_fail 8 = .ok (.invokevirtual 52, 3) := by decide +kernel
theorem dX4_fail_11 : decode cX4_fail 11 = .ok (.ifCond .ne 5, 3) := by decide +kernel
theorem dX4_fail_14 : decode cX4_fail 14 = .ok (.iconst (-1), 1) := by decide +kernel
theorem dX4_fail_15 : decode cX4_fail 15 = .ok (.ireturn, 1) := by decide +kernel
theorem dX4_fail_16 : decode cX4_fail 16 = .ok (.aload_n 0, 1) := by decide +kernel
theorem dX4_fail_17 : decode cX4_fail 17 = .ok (.getfield 10, 3) := by decide +kernel
theorem dX4_fail_20 : decode cX4_fail 20 = .ok (.getfield 30, 3) := by decide +kernel
theorem dX4_fail_23 : decode cX4_fail 23 = .ok (.getfield 55, 3) := by decide +kernel
theorem dX4_fail_26 : decode cX4_fail 26 = .ok (.iload_n 1, 1) := by decide +kernel
theorem dX4_fail_27 : decode cX4_fail 27 = .ok (.iaload, 1) := by decide +kernel
theorem dX4_fail_28 : decode cX4_fail 28 = .ok (.iconst 2, 1) := by decide +kernel
theorem dX4_fail_29 : decode cX4_fail 29 = .ok (.if_icmp .ne 6, 3) := by decide +kernel
theorem dX4_fail_32 : decode cX4_fail 32 = .ok (.bipush (-2), 2) := by decide +kernel
theorem dX4_fail_34 : decode cX4_fail 34 = .ok (.ireturn, 1) := by decide +kernel
theorem dX4_fail_35 : decode cX4_fail 35 = .ok (.aload_n 0, 1) := by decide +kernel
theorem dX4_fail_36 : decode cX4_fail 36 = .ok (.getfield 22, 3) := by decide +kernel
theorem dX4_fail_39 : decode cX4_fail 39 = .ok (.aload_n 0, 1) := by decide +kernel
theorem dX4_fail_40 : decode cX4_fail 40 = .ok (.getfield 10, 3) := by decide +kernel
theorem dX4_fail_43 : decode cX4_fail 43 = .ok (.invokevirtual 40, 3) := by decide +kernel
theorem dX4_fail_46 : decode cX4_fail 46 = .ok (.aload_n 0, 1) := by decide +kernel
theorem dX4_fail_47 : decode cX4_fail 47 = .ok (.getfield 10, 3) := by decide +kernel
theorem dX4_fail_50 : decode cX4_fail 50 = .ok (.iload_n 1, 1) := by decide +kernel
theorem dX4_fail_51 : decode cX4_fail 51 = .ok (.invokevirtual 68, 3) := by decide +kernel
theorem dX4_fail_54 : decode cX4_fail 54 = .ok (.aload_n 0, 1) := by decide +kernel
theorem dX4_fail_55 : decode cX4_fail 55 = .ok (.getfield 10, 3) := by decide +kernel
theorem dX4_fail_58 : decode cX4_fail 58 = .ok (.getfield 58, 3) := by decide +kernel
theorem dX4_fail_61 : decode cX4_fail 61 = .ok (.iconst 0, 1) := by decide +kernel
theorem dX4_fail_62 : decode cX4_fail 62 = .ok (.invokevirtual 72, 3) := by decide +kernel
theorem dX4_fail_65 : decode cX4_fail 65 = .ok (.ireturn, 1) := by decide +kernel
set_option maxRecDepth 20000 in
theorem ggX4_repair_X1_has : GoodIn wsX4_repair wsX1_has := goodIn_r _ [10, 11, 75, 76, 77, 78, 79, 80, 81, 82] (by decide +kernel) (by decide +kernel)
set_option maxRecDepth 20000 in
theorem gX4_repair_X1_has : GoodIn wsX4_repair (wsV RX4 52 RX1 yX1_has wsX1_has) := goodIn_app (goodIn_of _ (by decide +kernel)) ggX4_repair_X1_has
set_option maxRecDepth 20000 in
theorem ggX4_repair_X2_keep : GoodIn wsX4_repair wsX2_keep := goodIn_r _ [16, 17, 18, 19, 20, 21, 22, 23, 24, 25, 26, 27, 28, 29, 30, 31, 32, 33, 34, 35, 36, 37, 38, 39, 9, 40, 11, 41, 42, 43, 44, 45, 46, 47, 48, 49, 50, 51, 52, 53, 54, 55, 56, 57, 58, 59, 60, 61, 62, 63, 64, 65, 66, 67, 83, 84, 85, 71, 72, 73, 74, 75, 76, 77, 78, 79, 80, 81, 82, 86, 87, 88, 89, 90, 91, 92, 93, 94] (by decide +kernel) (by decide +kernel)
set_option maxRecDepth 20000 in
theorem gX4_repair_X2_keep : GoodIn wsX4_repair (wsV RX4 40 RX2 yX2_keep wsX2_keep) := goodIn_app (goodIn_of _ (by decide +kernel)) ggX4_repair_X2_keep
theorem dX4_repair_0 : decode cX4_repair 0 = .ok (.aload_n 0, 1) := by decide +kernel
theorem dX4_repair_1 : decode cX4_repair 1 = .ok (.getfield 10, 3) := by decide +kernel
theorem dX4_repair_4 : decode cX4_repair 4 = .ok (.getfield 30, 3) := by decide +kernel
theorem dX4_repair_7 : decode cX4_repair 7 = .ok (.iload_n 1, 1) := by decide +kernel
theorem dX4_repair_8 : decode cX4_repair 8 = .ok (.invokevirtual 52, 3) := by decide +kernel
theorem dX4_repair_11 : decode cX4_repair 11 = .ok (.ifCond .ne 5, 3) := by decide +kernel
theorem dX4_repair_14 : decode cX4_repair 14 = .ok (.iconst (-1), 1) := by decide +kernel
theorem dX4_repair_15 : decode cX4_repair 15 = .ok (.ireturn, 1) := by decide +kernel
theorem dX4_repair_16 : decode cX4_repair 16 = .ok (.aload_n 0, 1) := by decide +kernel
theorem dX4_repair_17 : decode cX4_repair 17 = .ok (.getfield 10, 3) := by decide +kernel
theorem dX4_repair_20 : decode cX4_repair 20 = .ok (.getfield 30, 3) := by decide +kernel
theorem dX4_repair_23 : decode cX4_repair 23 = .ok (.getfield 55, 3) := by decide +kernel
theorem dX4_repair_26 : decode cX4_repair 26 = .ok (.iload_n 1, 1) := by decide +kernel
theorem dX4_repair_27 : decode cX4_repair 27 = .ok (.iaload, 1) := by decide +kernel
theorem dX4_repair_28 : decode cX4_repair 28 = .ok (.iconst 2, 1) := by decide +kernel
theorem dX4_repair_29 : decode cX4_repair 29 = .ok (.if_icmp .eq 6, 3) := by decide +kernel
theorem dX4_repair_32 : decode cX4_repair 32 = .ok (.bipush (-2), 2) := by decide +kernel
theorem dX4_repair_34 : decode cX4_repair 34 = .ok (.ireturn, 1) := by decide +kernel
theorem dX4_repair_35 : decode cX4_repair 35 = .ok (.aload_n 0, 1) := by decide +kernel
theorem dX4_repair_36 : decode cX4_repair 36 = .ok (.getfield 22, 3) := by decide +kernel
theorem dX4_repair_39 : decode cX4_repair 39 = .ok (.aload_n 0, 1) := by decide +kernel
theorem dX4_repair_40 : decode cX4_repair 40 = .ok (.getfield 10, 3) := by decide +kernel
theorem dX4_repair_43 : decode cX4_repair 43 = .ok (.invokevirtual 40, 3) := by decide +kernel
theorem dX4_repair_46 : decode cX4_repair 46 = .ok (.aload_n 0, 1) := by decide +kernel
theorem dX4_repair_47 : decode cX4_repair 47 = .ok (.getfield 10, 3) := by decide +kernel
theorem dX4_repair_50 : decode cX4_repair 50 = .ok (.getfield 30, 3) := by decide +kernel
theorem dX4_repair_53 : decode cX4_repair 53 = .ok (.getfield 55, 3) := by decide +kernel
theorem dX4_repair_56 : decode cX4_repair 56 = .ok (.iload_n 1, 1) := by decide +kernel
theorem dX4_repair_57 : decode cX4_repair 57 = .ok (.iconst 0, 1) := by decide +kernel
theorem dX4_repair_58 : decode cX4_repair 58 = .ok (.iastore, 1) := by decide +kernel
theorem dX4_repair_59 : decode cX4_repair 59 = .ok (.aload_n 0, 1) := by decide +kernel
theorem dX4_repair_60 : decode cX4_repair 60 = .ok (.getfield 10, 3) := by decide +kernel
theorem dX4_repair_63 : decode cX4_repair 63 = .ok (.getfield 30, 3) := by decide +kernel
theorem dX4_repair_66 : decode cX4_repair 66 = .ok (.getfield 75, 3) := by decide +kernel
theorem dX4_repair_69 : decode cX4_repair 69 = .ok (.iload_n 1, 1) := by decide +kernel
theorem dX4_repair_70 : decode cX4_repair 70 = .ok (.iaload, 1) := by decide +kernel
theorem dX4_repair_71 : decode cX4_repair 71 = .ok (.ireturn, 1) := by decide +kernel
set_option maxRecDepth 20000 in
theorem ggX4_call_X4_isWay : GoodIn wsX4_call wsX4_isWay := goodIn_r _ [9, 10, 11, 8, 12] (by decide +kernel) (by decide +kernel)
set_option maxRecDepth 20000 in
theorem gX4_call_X4_isWay : GoodIn wsX4_call (va_wsS RX4 78 yX4_isWay wsX4_isWay) := goodIn_app (goodIn_of _ (by decide +kernel)) ggX4_call_X4_isWay
set_option maxRecDepth 20000 in
theorem ggX4_call_X2_keep : GoodIn wsX4_call wsX2_keep := goodIn_r _ [17, 18, 19, 20, 21, 22, 23, 24, 25, 26, 27, 28, 29, 30, 31, 32, 33, 34, 35, 36, 37, 38, 39, 40, 41, 42, 43, 44, 45, 46, 47, 48, 49, 50, 51, 52, 53, 54, 55, 56, 57, 58, 59, 60, 61, 62, 63, 64, 65, 66, 67, 68, 69, 70, 156, 157, 158, 143, 144, 145, 146, 159, 160, 161, 162, 163, 164, 165, 166, 147, 148, 149, 150, 151, 152, 153, 154, 155] (by decide +kernel) (by decide +kernel)
set_option maxRecDepth 20000 in
theorem gX4_call_X2_keep : GoodIn wsX4_call (wsV RX4 40 RX2 yX2_keep wsX2_keep) := goodIn_app (goodIn_of _ (by decide +kernel)) ggX4_call_X2_keep
set_option maxRecDepth 20000 in
theorem ggX4_call_X3_bestCar : GoodIn wsX4_call wsX3_bestCar := goodIn_r _ [74, 36, 75, 76, 77, 78, 28, 79, 80, 81, 82, 83, 84, 31, 85, 86, 87, 88, 30, 89, 90, 91, 41, 92, 45, 47, 93, 94, 95, 96, 97, 98, 99, 23, 100, 37, 101, 102, 103, 55, 104, 57, 58, 60, 105, 106, 107, 108, 61, 62, 109, 110, 111, 112, 113, 114, 115, 116, 117, 118, 119, 120, 121, 122, 123, 124, 125, 126, 127, 143, 144, 145, 146, 159, 160, 161, 162, 163, 164, 165, 166, 147, 148, 149, 150, 151, 152, 153, 154, 155] (by decide +kernel) (by decide +kernel)
set_option maxRecDepth 20000 in
theorem gX4_call_X3_bestCar : GoodIn wsX4_call (wsV RX4 83 RX3 yX3_bestCar wsX3_bestCar) := goodIn_app (goodIn_of _ (by decide +kernel)) ggX4_call_X3_bestCar
set_option maxRecDepth 20000 in
theorem ggX4_call_X0_add : GoodIn wsX4_call wsX0_add := goodIn_r _ [131, 57, 58, 60, 61, 62, 63, 64, 65, 66, 147, 148, 149, 150, 151, 152, 153, 154, 155] (by decide +kernel) (by decide +kernel)
set_option maxRecDepth 20000 in
theorem gX4_call_X0_add : GoodIn wsX4_call (wsV RX4 90 RX0 yX0_add wsX0_add) := goodIn_app (goodIn_of _ (by decide +kernel)) ggX4_call_X0_add
set_option maxRecDepth 20000 in
theorem ggX4_call_X0_give : GoodIn wsX4_call wsX0_give := goodIn_r _ [135, 61, 62, 66, 136, 137, 138, 55, 139, 57, 147, 148, 149, 150, 151, 152, 153, 154, 155] (by decide +kernel) (by decide +kernel)
set_option maxRecDepth 20000 in
theorem gX4_call_X0_give : GoodIn wsX4_call (wsV RX4 91 RX0 yX0_give wsX0_give) := goodIn_app (goodIn_of _ (by decide +kernel)) ggX4_call_X0_give
theorem dX4_call_0 : decode cX4_call 0 = .ok (.iload_n 1, 1) := by decide +kernel
theorem dX4_call_1 : decode cX4_call 1 = .ok (.iload_n 2, 1) := by decide +kernel
theorem dX4_call_2 : decode cX4_call 2 = .ok (.invokestatic 78, 3) := by decide +kernel
theorem dX4_call_5 : decode cX4_call 5 = .ok (.ifCond .ne 5, 3) := by decide +kernel
theorem dX4_call_8 : decode cX4_call 8 = .ok (.iconst (-1), 1) := by decide +kernel
theorem dX4_call_9 : decode cX4_call 9 = .ok (.ireturn, 1) := by decide +kernel
theorem dX4_call_10 : decode cX4_call 10 = .ok (.aload_n 0, 1) := by decide +kernel
theorem dX4_call_11 : decode cX4_call 11 = .ok (.getfield 10, 3) := by decide +kernel
theorem dX4_call_14 : decode cX4_call 14 = .ok (.getfield 58, 3) := by decide +kernel
theorem dX4_call_17 : decode cX4_call 17 = .ok (.getfield 82, 3) := by decide +kernel
theorem dX4_call_20 : decode cX4_call 20 = .ok (.bipush 40, 2) := by decide +kernel
theorem dX4_call_22 : decode cX4_call 22 = .ok (.if_icmp .lt 6, 3) := by decide +kernel
theorem dX4_call_25 : decode cX4_call 25 = .ok (.bipush (-3), 2) := by decide +kernel
theorem dX4_call_27 : decode cX4_call 27 = .ok (.ireturn, 1) := by decide +kernel
theorem dX4_call_28 : decode cX4_call 28 = .ok (.aload_n 0, 1) := by decide +kernel
theorem dX4_call_29 : decode cX4_call 29 = .ok (.getfield 22, 3) := by decide +kernel
theorem dX4_call_32 : decode cX4_call 32 = .ok (.aload_n 0, 1) := by decide +kernel
theorem dX4_call_33 : decode cX4_call 33 = .ok (.getfield 10, 3) := by decide +kernel
theorem dX4_call_36 : decode cX4_call 36 = .ok (.invokevirtual 40, 3) := by decide +kernel
theorem dX4_call_39 : decode cX4_call 39 = .ok (.aload_n 0, 1) := by decide +kernel
theorem dX4_call_40 : decode cX4_call 40 = .ok (.getfield 10, 3) := by decide +kernel
theorem dX4_call_43 : decode cX4_call 43 = .ok (.iload_n 1, 1) := by decide +kernel
theorem dX4_call_44 : decode cX4_call 44 = .ok (.iload_n 2, 1) := by decide +kernel
theorem dX4_call_45 : decode cX4_call 45 = .ok (.invokevirtual 83, 3) := by decide +kernel
theorem dX4_call_48 : decode cX4_call 48 = .ok (.istore_n 3, 1) := by decide +kernel
theorem dX4_call_49 : decode cX4_call 49 = .ok (.aload_n 0, 1) := by decide +kernel
theorem dX4_call_50 : decode cX4_call 50 = .ok (.getfield 10, 3) := by decide +kernel
theorem dX4_call_53 : decode cX4_call 53 = .ok (.getfield 58, 3) := by decide +kernel
theorem dX4_call_56 : decode cX4_call 56 = .ok (.iload_n 1, 1) := by decide +kernel
theorem dX4_call_57 : decode cX4_call 57 = .ok (.iload_n 2, 1) := by decide +kernel
theorem dX4_call_58 : decode cX4_call 58 = .ok (.aload_n 0, 1) := by decide +kernel
theorem dX4_call_59 : decode cX4_call 59 = .ok (.getfield 10, 3) := by decide +kernel
theorem dX4_call_62 : decode cX4_call 62 = .ok (.getfield 87, 3) := by decide +kernel
theorem dX4_call_65 : decode cX4_call 65 = .ok (.invokevirtual 90, 3) := by decide +kernel
theorem dX4_call_68 : decode cX4_call 68 = .ok (.istore 4, 2) := by decide +kernel
theorem dX4_call_70 : decode cX4_call 70 = .ok (.aload_n 0, 1) := by decide +kernel
theorem dX4_call_71 : decode cX4_call 71 = .ok (.getfield 10, 3) := by decide +kernel
theorem dX4_call_74 : decode cX4_call 74 = .ok (.getfield 58, 3) := by decide +kernel
theorem dX4_call_77 : decode cX4_call 77 = .ok (.iload 4, 2) := by decide +kernel
theorem dX4_call_79 : decode cX4_call 79 = .ok (.iload_n 3, 1) := by decide +kernel
theorem dX4_call_80 : decode cX4_call 80 = .ok (.invokevirtual 91, 3) := by decide +kernel
theorem dX4_call_83 : decode cX4_call 83 = .ok (.iload 4, 2) := by decide +kernel
theorem dX4_call_85 : decode cX4_call 85 = .ok (.ireturn, 1) := by decide +kernel
set_option maxRecDepth 20000 in
theorem ggX4_pass_X2_keep : GoodIn wsX4_pass wsX2_keep := goodIn_r _ [9, 10, 11, 12, 13, 14, 15, 16, 17, 18, 19, 20, 21, 22, 23, 24, 25, 26, 27, 28, 29, 30, 31, 32, 33, 34, 35, 36, 37, 38, 39, 40, 41, 42, 43, 44, 45, 46, 47, 48, 49, 50, 51, 52, 53, 54, 55, 56, 57, 58, 59, 60, 61, 62, 173, 174, 175, 169, 170, 171, 172, 176, 177, 178, 179, 180, 181, 182, 183, 184, 185, 186, 187, 188, 189, 190, 191, 192] (by decide +kernel) (by decide +kernel)
set_option maxRecDepth 20000 in
theorem gX4_pass_X2_keep : GoodIn wsX4_pass (wsV RX4 40 RX2 yX2_keep wsX2_keep) := goodIn_app (goodIn_of _ (by decide +kernel)) ggX4_pass_X2_keep
set_option maxRecDepth 20000 in
theorem ggX4_pass_X3_oneTick : GoodIn wsX4_pass wsX3_oneTick := goodIn_r _ [66, 29, 67, 68, 69, 70, 28, 71, 72, 22, 73, 74, 75, 20, 76, 77, 78, 79, 80, 81, 82, 83, 84, 23, 85, 86, 87, 88, 89, 90, 91, 33, 92, 37, 39, 93, 94, 95, 96, 97, 98, 99, 15, 100, 101, 102, 103, 47, 104, 49, 50, 52, 105, 106, 107, 108, 53, 54, 109, 110, 111, 112, 113, 114, 115, 116, 117, 118, 119, 120, 121, 122, 123, 124, 125, 126, 127, 128, 129, 130, 131, 58, 132, 133, 134, 135, 136, 137, 138, 139, 140, 141, 142, 143, 144, 145, 57, 146, 147, 148, 149, 56, 150, 151, 152, 153, 154, 155, 156, 157, 158, 159, 160, 161, 41, 43, 169, 170, 171, 172, 184, 185, 186, 187, 188, 189, 190, 191, 192, 176, 177, 178, 179, 180, 181, 182, 183] (by decide +kernel) (by decide +kernel)
set_option maxRecDepth 20000 in
theorem gX4_pass_X3_oneTick : GoodIn wsX4_pass (wsV RX4 95 RX3 yX3_oneTick wsX3_oneTick) := goodIn_app (goodIn_of _ (by decide +kernel)) ggX4_pass_X3_oneTick
set_option maxRecDepth 20000 in
theorem ggX4_pass_X0_numberIn : GoodIn wsX4_pass wsX0_numberIn := goodIn_r _ [165, 49, 53, 184, 185, 186, 187, 188, 189, 190, 191, 192] (by decide +kernel) (by decide +kernel)
set_option maxRecDepth 20000 in
theorem gX4_pass_X0_numberIn : GoodIn wsX4_pass (wsV RX4 72 RX0 yX0_numberIn wsX0_numberIn) := goodIn_app (goodIn_of _ (by decide +kernel)) ggX4_pass_X0_numberIn
theorem dX4_pass_0 : decode cX4_pass 0 = .ok (.iload_n 1, 1) := by decide +kernel
theorem dX4_pass_1 : decode cX4_pass 1 = .ok (.iconst 1, 1) := by decide +kernel
theorem dX4_pass_2 : decode cX4_pass 2 = .ok (.if_icmp .lt 10, 3) := by decide +kernel
theorem dX4_pass_5 : decode cX4_pass 5 = .ok (.iload_n 1, 1) := by decide +kernel
theorem dX4_pass_6 : decode cX4_pass 6 = .ok (.sipush 200, 3) := by decide +kernel
theorem dX4_pass_9 : decode cX4_pass 9 = .ok (.if_icmp .le 5, 3) := by decide +kernel
theorem dX4_pass_12 : decode cX4_pass 12 = .ok (.iconst (-1), 1) := by decide +kernel
theorem dX4_pass_13 : decode cX4_pass 13 = .ok (.ireturn, 1) := by decide +kernel
theorem dX4_pass_14 : decode cX4_pass 14 = .ok (.aload_n 0, 1) := by decide +kernel
theorem dX4_pass_15 : decode cX4_pass 15 = .ok (.getfield 10, 3) := by decide +kernel
theorem dX4_pass_18 : decode cX4_pass 18 = .ok (.getfield 87, 3) := by decide +kernel
theorem dX4_pass_21 : decode cX4_pass 21 = .ok (.iload_n 1, 1) := by decide +kernel
theorem dX4_pass_22 : decode cX4_pass 22 = .ok (.iadd, 1) := by decide +kernel
theorem dX4_pass_23 : decode cX4_pass 23 = .ok (.sipush 20000, 3) := by decide +kernel
theorem dX4_pass_26 : decode cX4_pass 26 = .ok (.if_icmp .le 6, 3) := by decide +kernel
theorem dX4_pass_29 : decode cX4_pass 29 = .ok (.bipush (-2), 2) := by decide +kernel
theorem dX4_pass_31 : decode cX4_pass 31 = .ok (.ireturn, 1) := by decide +kernel
theorem dX4_pass_32 : decode cX4_pass 32 = .ok (.aload_n 0, 1) := by decide +kernel
theorem dX4_pass_33 : decode cX4_pass 33 = .ok (.getfield 22, 3) := by decide +kernel
theorem dX4_pass_36 : decode cX4_pass 36 = .ok (.aload_n 0, 1) := by decide +kernel
theorem dX4_pass_37 : decode cX4_pass 37 = .ok (.getfield 10, 3) := by decide +kernel
theorem dX4_pass_40 : decode cX4_pass 40 = .ok (.invokevirtual 40, 3) := by decide +kernel
theorem dX4_pass_43 : decode cX4_pass 43 = .ok (.iconst 0, 1) := by decide +kernel
theorem dX4_pass_44 : decode cX4_pass 44 = .ok (.istore_n 2, 1) := by decide +kernel
theorem dX4_pass_45 : decode cX4_pass 45 = .ok (.iload_n 2, 1) := by decide +kernel
theorem dX4_pass_46 : decode cX4_pass 46 = .ok (.iload_n 1, 1) := by decide +kernel
theorem dX4_pass_47 : decode cX4_pass 47 = .ok (.if_icmp .ge 16, 3) := by decide +kernel
theorem dX4_pass_50 : decode cX4_pass 50 = .ok (.aload_n 0, 1) := by decide +kernel
theorem dX4_pass_51 : decode cX4_pass 51 = .ok (.getfield 10, 3) := by decide +kernel
theorem dX4_pass_54 : decode cX4_pass 54 = .ok (.invokevirtual 95, 3) := by decide +kernel
theorem dX4_pass_57 : decode cX4_pass 57 = .ok (.iinc 2 1, 3) := by decide +kernel
theorem dX4_pass_60 : decode cX4_pass 60 = .ok (.goto (-15), 3) := by decide +kernel
theorem dX4_pass_63 : decode cX4_pass 63 = .ok (.aload_n 0, 1) := by decide +kernel
theorem dX4_pass_64 : decode cX4_pass 64 = .ok (.getfield 10, 3) := by decide +kernel
theorem dX4_pass_67 : decode cX4_pass 67 = .ok (.getfield 58, 3) := by decide +kernel
theorem dX4_pass_70 : decode cX4_pass 70 = .ok (.iconst 3, 1) := by decide +kernel
theorem dX4_pass_71 : decode cX4_pass 71 = .ok (.invokevirtual 72, 3) := by decide +kernel
theorem dX4_pass_74 : decode cX4_pass 74 = .ok (.ireturn, 1) := by decide +kernel
set_option maxRecDepth 20000 in
theorem ggX4_count_X3_hour : GoodIn wsX4_count wsX3_hour := goodIn_r _ [14, 15, 56, 57, 58, 59] (by decide +kernel) (by decide +kernel)
set_option maxRecDepth 20000 in
theorem gX4_count_X3_hour : GoodIn wsX4_count (wsV RX4 102 RX3 yX3_hour wsX3_hour) := goodIn_app (goodIn_of _ (by decide +kernel)) ggX4_count_X3_hour
set_option maxRecDepth 20000 in
theorem ggX4_count_X0_numberIn : GoodIn wsX4_count wsX0_numberIn := goodIn_r _ [20, 21, 22, 68, 69, 70, 71, 72, 73, 74, 75, 76] (by decide +kernel) (by decide +kernel)
set_option maxRecDepth 20000 in
theorem gX4_count_X0_numberIn : GoodIn wsX4_count (wsV RX4 72 RX0 yX0_numberIn wsX0_numberIn) := goodIn_app (goodIn_of _ (by decide +kernel)) ggX4_count_X0_numberIn
set_option maxRecDepth 20000 in
theorem ggX4_count_X0_numberOfGroups : GoodIn wsX4_count wsX0_numberOfGroups := goodIn_r _ [26, 21, 27, 28, 29, 19, 30, 31, 32, 33, 34, 35, 36, 37, 38, 39, 40, 22, 68, 69, 70, 71, 72, 73, 74, 75, 76] (by decide +kernel) (by decide +kernel)
set_option maxRecDepth 20000 in
theorem gX4_count_X0_numberOfGroups : GoodIn wsX4_count (wsV RX4 106 RX0 yX0_numberOfGroups wsX0_numberOfGroups) := goodIn_app (goodIn_of _ (by decide +kernel)) ggX4_count_X0_numberOfGroups
set_option maxRecDepth 20000 in
theorem ggX4_count_X1_travelledByAll : GoodIn wsX4_count wsX1_travelledByAll := goodIn_r _ [45, 46, 47, 60, 61, 62, 63, 64, 65, 66, 67] (by decide +kernel) (by decide +kernel)
set_option maxRecDepth 20000 in
theorem gX4_count_X1_travelledByAll : GoodIn wsX4_count (wsV RX4 109 RX1 yX1_travelledByAll wsX1_travelledByAll) := goodIn_app (goodIn_of _ (by decide +kernel)) ggX4_count_X1_travelledByAll
set_option maxRecDepth 20000 in
theorem ggX4_count_X1_numberIn : GoodIn wsX4_count wsX1_numberIn := goodIn_r _ [51, 46, 52, 60, 61, 62, 63, 64, 65, 66, 67] (by decide +kernel) (by decide +kernel)
set_option maxRecDepth 20000 in
theorem gX4_count_X1_numberIn : GoodIn wsX4_count (wsV RX4 115 RX1 yX1_numberIn wsX1_numberIn) := goodIn_app (goodIn_of _ (by decide +kernel)) ggX4_count_X1_numberIn
theorem dX4_count_0 : decode cX4_count 0 = .ok (.iload_n 1, 1) := by decide +kernel
theorem dX4_count_1 : decode cX4_count 1 = .ok (.tableswitch 222 0 13 #[71, 79, 87, 98, 109, 121, 133, 145, 157, 168, 179, 190, 202, 214], 71) := by decide +kernel
theorem dX4_count_72 : decode cX4_count 72 = .ok (.aload_n 0, 1) := by decide +kernel
theorem dX4_count_73 : decode cX4_count 73 = .ok (.getfield 10, 3) := by decide +kernel
theorem dX4_count_76 : decode cX4_count 76 = .ok (.getfield 87, 3) := by decide +kernel
theorem dX4_count_79 : decode cX4_count 79 = .ok (.ireturn, 1) := by decide +kernel
theorem dX4_count_80 : decode cX4_count 80 = .ok (.aload_n 0, 1) := by decide +kernel
theorem dX4_count_81 : decode cX4_count 81 = .ok (.getfield 10, 3) := by decide +kernel
theorem dX4_count_84 : decode cX4_count 84 = .ok (.invokevirtual 102, 3) := by decide +kernel
theorem dX4_count_87 : decode cX4_count 87 = .ok (.ireturn, 1) := by decide +kernel
theorem dX4_count_88 : decode cX4_count 88 = .ok (.aload_n 0, 1) := by decide +kernel
theorem dX4_count_89 : decode cX4_count 89 = .ok (.getfield 10, 3) := by decide +kernel
theorem dX4_count_92 : decode cX4_count 92 = .ok (.getfield 30, 3) := by decide +kernel
theorem dX4_count_95 : decode cX4_count 95 = .ok (.getfield 34, 3) := by decide +kernel
theorem dX4_count_98 : decode cX4_count 98 = .ok (.ireturn, 1) := by decide +kernel
theorem dX4_count_99 : decode cX4_count 99 = .ok (.aload_n 0, 1) := by decide +kernel
theorem dX4_count_100 : decode cX4_count 100 = .ok (.getfield 10, 3) := by decide +kernel
theorem dX4_count_103 : decode cX4_count 103 = .ok (.getfield 58, 3) := by decide +kernel
theorem dX4_count_106 : decode cX4_count 106 = .ok (.getfield 82, 3) := by decide +kernel
theorem dX4_count_109 : decode cX4_count 109 = .ok (.ireturn, 1) := by decide +kernel
theorem dX4_count_110 : decode cX4_count 110 = .ok (.aload_n 0, 1) := by decide +kernel
theorem dX4_count_111 : decode cX4_count 111 = .ok (.getfield 10, 3) := by decide +kernel
theorem dX4_count_114 : decode cX4_count 114 = .ok (.getfield 58, 3) := by decide +kernel
theorem dX4_count_117 : decode cX4_count 117 = .ok (.iconst 0, 1) := by decide +kernel
theorem dX4_count_118 : decode cX4_count 118 = .ok (.invokevirtual 72, 3) := by decide +kernel
theorem dX4_count_121 : decode cX4_count 121 = .ok (.ireturn, 1) := by decide +kernel
theorem dX4_count_122 : decode cX4_count 122 = .ok (.aload_n 0, 1) := by decide +kernel
theorem dX4_count_123 : decode cX4_count 123 = .ok (.getfield 10, 3) := by decide +kernel
theorem dX4_count_126 : decode cX4_count 126 = .ok (.getfield 58, 3) := by decide +kernel
theorem dX4_count_129 : decode cX4_count 129 = .ok (.iconst 1, 1) := by decide +kernel
theorem dX4_count_130 : decode cX4_count 130 = .ok (.invokevirtual 72, 3) := by decide +kernel
theorem dX4_count_133 : decode cX4_count 133 = .ok (.ireturn, 1) := by decide +kernel
theorem dX4_count_134 : decode cX4_count 134 = .ok (.aload_n 0, 1) := by decide +kernel
theorem dX4_count_135 : decode cX4_count 135 = .ok (.getfield 10, 3) := by decide +kernel
theorem dX4_count_138 : decode cX4_count 138 = .ok (.getfield 58, 3) := by decide +kernel
theorem dX4_count_141 : decode cX4_count 141 = .ok (.iconst 2, 1) := by decide +kernel
theorem dX4_count_142 : decode cX4_count 142 = .ok (.invokevirtual 72, 3) := by decide +kernel
theorem dX4_count_145 : decode cX4_count 145 = .ok (.ireturn, 1) := by decide +kernel
theorem dX4_count_146 : decode cX4_count 146 = .ok (.aload_n 0, 1) := by decide +kernel
theorem dX4_count_147 : decode cX4_count 147 = .ok (.getfield 10, 3) := by decide +kernel
theorem dX4_count_150 : decode cX4_count 150 = .ok (.getfield 58, 3) := by decide +kernel
theorem dX4_count_153 : decode cX4_count 153 = .ok (.iconst 3, 1) := by decide +kernel
theorem dX4_count_154 : decode cX4_count 154 = .ok (.invokevirtual 72, 3) := by decide +kernel
theorem dX4_count_157 : decode cX4_count 157 = .ok (.ireturn, 1) := by decide +kernel
theorem dX4_count_158 : decode cX4_count 158 = .ok (.aload_n 0, 1) := by decide +kernel
theorem dX4_count_159 : decode cX4_count 159 = .ok (.getfield 10, 3) := by decide +kernel
theorem dX4_count_162 : decode cX4_count 162 = .ok (.getfield 58, 3) := by decide +kernel
theorem dX4_count_165 : decode cX4_count 165 = .ok (.invokevirtual 106, 3) := by decide +kernel
theorem dX4_count_168 : decode cX4_count 168 = .ok (.ireturn, 1) := by decide +kernel
theorem dX4_count_169 : decode cX4_count 169 = .ok (.aload_n 0, 1) := by decide +kernel
theorem dX4_count_170 : decode cX4_count 170 = .ok (.getfield 10, 3) := by decide +kernel
theorem dX4_count_173 : decode cX4_count 173 = .ok (.getfield 30, 3) := by decide +kernel
theorem dX4_count_176 : decode cX4_count 176 = .ok (.invokevirtual 109, 3) := by decide +kernel
theorem dX4_count_179 : decode cX4_count 179 = .ok (.ireturn, 1) := by decide +kernel
theorem dX4_count_180 : decode cX4_count 180 = .ok (.aload_n 0, 1) := by decide +kernel
theorem dX4_count_181 : decode cX4_count 181 = .ok (.getfield 10, 3) := by decide +kernel
theorem dX4_count_184 : decode cX4_count 184 = .ok (.getfield 30, 3) := by decide +kernel
theorem dX4_count_187 : decode cX4_count 187 = .ok (.getfield 112, 3) := by decide +kernel
theorem dX4_count_190 : decode cX4_count 190 = .ok (.ireturn, 1) := by decide +kernel
theorem dX4_count_191 : decode cX4_count 191 = .ok (.aload_n 0, 1) := by decide +kernel
theorem dX4_count_192 : decode cX4_count 192 = .ok (.getfield 10, 3) := by decide +kernel
theorem dX4_count_195 : decode cX4_count 195 = .ok (.getfield 30, 3) := by decide +kernel
theorem dX4_count_198 : decode cX4_count 198 = .ok (.iconst 1, 1) := by decide +kernel
theorem dX4_count_199 : decode cX4_count 199 = .ok (.invokevirtual 115, 3) := by decide +kernel
theorem dX4_count_202 : decode cX4_count 202 = .ok (.ireturn, 1) := by decide +kernel
theorem dX4_count_203 : decode cX4_count 203 = .ok (.aload_n 0, 1) := by decide +kernel
theorem dX4_count_204 : decode cX4_count 204 = .ok (.getfield 10, 3) := by decide +kernel
theorem dX4_count_207 : decode cX4_count 207 = .ok (.getfield 30, 3) := by decide +kernel
theorem dX4_count_210 : decode cX4_count 210 = .ok (.iconst 2, 1) := by decide +kernel
theorem dX4_count_211 : decode cX4_count 211 = .ok (.invokevirtual 115, 3) := by decide +kernel
theorem dX4_count_214 : decode cX4_count 214 = .ok (.ireturn, 1) := by decide +kernel
theorem dX4_count_215 : decode cX4_count 215 = .ok (.aload_n 0, 1) := by decide +kernel
theorem dX4_count_216 : decode cX4_count 216 = .ok (.getfield 22, 3) := by decide +kernel
theorem dX4_count_219 : decode cX4_count 219 = .ok (.getfield 98, 3) := by decide +kernel
theorem dX4_count_222 : decode cX4_count 222 = .ok (.ireturn, 1) := by decide +kernel
theorem dX4_count_223 : decode cX4_count 223 = .ok (.iconst (-1), 1) := by decide +kernel
theorem dX4_count_224 : decode cX4_count 224 = .ok (.ireturn, 1) := by decide +kernel
set_option maxRecDepth 20000 in
theorem ggX4_car_X1_has : GoodIn wsX4_car wsX1_has := goodIn_r _ [11, 12, 71, 72, 73, 74, 75, 76, 77, 78] (by decide +kernel) (by decide +kernel)
set_option maxRecDepth 20000 in
theorem gX4_car_X1_has : GoodIn wsX4_car (wsV RX4 52 RX1 yX1_has wsX1_has) := goodIn_app (goodIn_of _ (by decide +kernel)) ggX4_car_X1_has
set_option maxRecDepth 20000 in
theorem ggX4_car_X0_numberOf : GoodIn wsX4_car wsX0_numberOf := goodIn_r _ [17, 18, 19, 20, 79, 80, 81, 82, 83, 84, 85, 86, 87] (by decide +kernel) (by decide +kernel)
set_option maxRecDepth 20000 in
theorem gX4_car_X0_numberOf : GoodIn wsX4_car (wsV RX4 116 RX0 yX0_numberOf wsX0_numberOf) := goodIn_app (goodIn_of _ (by decide +kernel)) ggX4_car_X0_numberOf
set_option maxRecDepth 20000 in
theorem ggX4_car_X0_stopsOf : GoodIn wsX4_car wsX0_stopsOf := goodIn_r _ [24, 18, 25, 26, 27, 28, 29, 16, 30, 19, 20, 31, 32, 33, 34, 79, 80, 81, 82, 83, 84, 85, 86, 87] (by decide +kernel) (by decide +kernel)
set_option maxRecDepth 20000 in
theorem gX4_car_X0_stopsOf : GoodIn wsX4_car (wsV RX4 119 RX0 yX0_stopsOf wsX0_stopsOf) := goodIn_app (goodIn_of _ (by decide +kernel)) ggX4_car_X0_stopsOf
set_option maxRecDepth 20000 in
theorem ggX4_car_J6_bitCount_0f7a4 : GoodIn wsX4_car wsJ6_bitCount_0f7a4 := goodIn_r _ [38, 39, 40, 41] (by decide +kernel) (by decide +kernel)
set_option maxRecDepth 20000 in
theorem gX4_car_J6_bitCount_0f7a4 : GoodIn wsX4_car (va_wsS RX4 122 yJ6_bitCount_0f7a4 wsJ6_bitCount_0f7a4) := goodIn_app (goodIn_of _ (by decide +kernel)) ggX4_car_J6_bitCount_0f7a4
set_option maxRecDepth 20000 in
theorem ggX4_car_X0_aimOf : GoodIn wsX4_car wsX0_aimOf := goodIn_r _ [45, 18, 26, 25, 31, 32, 33, 16, 34, 19, 20, 46, 47, 48, 49, 50, 51, 52, 27, 28, 29, 30, 79, 80, 81, 82, 83, 84, 85, 86, 87] (by decide +kernel) (by decide +kernel)
set_option maxRecDepth 20000 in
theorem gX4_car_X0_aimOf : GoodIn wsX4_car (wsV RX4 127 RX0 yX0_aimOf wsX0_aimOf) := goodIn_app (goodIn_of _ (by decide +kernel)) ggX4_car_X0_aimOf
set_option maxRecDepth 20000 in
theorem ggX4_car_X3_isAwake : GoodIn wsX4_car wsX3_isAwake := goodIn_r _ [57, 58, 59, 60, 61, 56, 62, 63, 67, 68, 69, 70] (by decide +kernel) (by decide +kernel)
set_option maxRecDepth 20000 in
theorem gX4_car_X3_isAwake : GoodIn wsX4_car (wsV RX4 133 RX3 yX3_isAwake wsX3_isAwake) := goodIn_app (goodIn_of _ (by decide +kernel)) ggX4_car_X3_isAwake
theorem dX4_car_0 : decode cX4_car 0 = .ok (.aload_n 0, 1) := by decide +kernel
theorem dX4_car_1 : decode cX4_car 1 = .ok (.getfield 10, 3) := by decide +kernel
theorem dX4_car_4 : decode cX4_car 4 = .ok (.getfield 30, 3) := by decide +kernel
theorem dX4_car_7 : decode cX4_car 7 = .ok (.iload_n 1, 1) := by decide +kernel
theorem dX4_car_8 : decode cX4_car 8 = .ok (.invokevirtual 52, 3) := by decide +kernel
theorem dX4_car_11 : decode cX4_car 11 = .ok (.ifCond .ne 5, 3) := by decide +kernel
theorem dX4_car_14 : decode cX4_car 14 = .ok (.iconst (-1), 1) := by decide +kernel
theorem dX4_car_15 : decode cX4_car 15 = .ok (.ireturn, 1) := by decide +kernel
theorem dX4_car_16 : decode cX4_car 16 = .ok (.iload_n 2, 1) := by decide +kernel
theorem dX4_car_17 : decode cX4_car 17 = .ok (.tableswitch 168 0 7 #[47, 60, 73, 86, 99, 114, 138, 151], 47) := by decide +kernel
theorem dX4_car_64 : decode cX4_car 64 = .ok (.aload_n 0, 1) := by decide +kernel
theorem dX4_car_65 : decode cX4_car 65 = .ok (.getfield 10, 3) := by decide +kernel
theorem dX4_car_68 : decode cX4_car 68 = .ok (.getfield 30, 3) := by decide +kernel
theorem dX4_car_71 : decode cX4_car 71 = .ok (.getfield 75, 3) := by decide +kernel
theorem dX4_car_74 : decode cX4_car 74 = .ok (.iload_n 1, 1) := by decide +kernel
theorem dX4_car_75 : decode cX4_car 75 = .ok (.iaload, 1) := by decide +kernel
theorem dX4_car_76 : decode cX4_car 76 = .ok (.ireturn, 1) := by decide +kernel
theorem dX4_car_77 : decode cX4_car 77 = .ok (.aload_n 0, 1) := by decide +kernel
theorem dX4_car_78 : decode cX4_car 78 = .ok (.getfield 10, 3) := by decide +kernel
theorem dX4_car_81 : decode cX4_car 81 = .ok (.getfield 30, 3) := by decide +kernel
theorem dX4_car_84 : decode cX4_car 84 = .ok (.getfield 55, 3) := by decide +kernel
theorem dX4_car_87 : decode cX4_car 87 = .ok (.iload_n 1, 1) := by decide +kernel
theorem dX4_car_88 : decode cX4_car 88 = .ok (.iaload, 1) := by decide +kernel
theorem dX4_car_89 : decode cX4_car 89 = .ok (.ireturn, 1) := by decide +kernel
theorem dX4_car_90 : decode cX4_car 90 = .ok (.aload_n 0, 1) := by decide +kernel
theorem dX4_car_91 : decode cX4_car 91 = .ok (.getfield 10, 3) := by decide +kernel
theorem dX4_car_94 : decode cX4_car 94 = .ok (.getfield 58, 3) := by decide +kernel
theorem dX4_car_97 : decode cX4_car 97 = .ok (.iload_n 1, 1) := by decide +kernel
theorem dX4_car_98 : decode cX4_car 98 = .ok (.iconst 2, 1) := by decide +kernel
theorem dX4_car_99 : decode cX4_car 99 = .ok (.invokevirtual 116, 3) := by decide +kernel
theorem dX4_car_102 : decode cX4_car 102 = .ok (.ireturn, 1) := by decide +kernel
theorem dX4_car_103 : decode cX4_car 103 = .ok (.aload_n 0, 1) := by decide +kernel
theorem dX4_car_104 : decode cX4_car 104 = .ok (.getfield 10, 3) := by decide +kernel
theorem dX4_car_107 : decode cX4_car 107 = .ok (.getfield 58, 3) := by decide +kernel
theorem dX4_car_110 : decode cX4_car 110 = .ok (.iload_n 1, 1) := by decide +kernel
theorem dX4_car_111 : decode cX4_car 111 = .ok (.iconst 1, 1) := by decide +kernel
theorem dX4_car_112 : decode cX4_car 112 = .ok (.invokevirtual 116, 3) := by decide +kernel
theorem dX4_car_115 : decode cX4_car 115 = .ok (.ireturn, 1) := by decide +kernel
theorem dX4_car_116 : decode cX4_car 116 = .ok (.aload_n 0, 1) := by decide +kernel
theorem dX4_car_117 : decode cX4_car 117 = .ok (.getfield 10, 3) := by decide +kernel
theorem dX4_car_120 : decode cX4_car 120 = .ok (.getfield 58, 3) := by decide +kernel
theorem dX4_car_123 : decode cX4_car 123 = .ok (.iload_n 1, 1) := by decide +kernel
theorem dX4_car_124 : decode cX4_car 124 = .ok (.invokevirtual 119, 3) := by decide +kernel
theorem dX4_car_127 : decode cX4_car 127 = .ok (.invokestatic 122, 3) := by decide +kernel
theorem dX4_car_130 : decode cX4_car 130 = .ok (.ireturn, 1) := by decide +kernel
theorem dX4_car_131 : decode cX4_car 131 = .ok (.aload_n 0, 1) := by decide +kernel
theorem dX4_car_132 : decode cX4_car 132 = .ok (.getfield 10, 3) := by decide +kernel
theorem dX4_car_135 : decode cX4_car 135 = .ok (.getfield 58, 3) := by decide +kernel
theorem dX4_car_138 : decode cX4_car 138 = .ok (.iload_n 1, 1) := by decide +kernel
theorem dX4_car_139 : decode cX4_car 139 = .ok (.aload_n 0, 1) := by decide +kernel
theorem dX4_car_140 : decode cX4_car 140 = .ok (.getfield 10, 3) := by decide +kernel
theorem dX4_car_143 : decode cX4_car 143 = .ok (.getfield 30, 3) := by decide +kernel
theorem dX4_car_146 : decode cX4_car 146 = .ok (.getfield 75, 3) := by decide +kernel
theorem dX4_car_149 : decode cX4_car 149 = .ok (.iload_n 1, 1) := by decide +kernel
theorem dX4_car_150 : decode cX4_car 150 = .ok (.iaload, 1) := by decide +kernel
theorem dX4_car_151 : decode cX4_car 151 = .ok (.invokevirtual 127, 3) := by decide +kernel
theorem dX4_car_154 : decode cX4_car 154 = .ok (.ireturn, 1) := by decide +kernel
theorem dX4_car_155 : decode cX4_car 155 = .ok (.aload_n 0, 1) := by decide +kernel
theorem dX4_car_156 : decode cX4_car 156 = .ok (.getfield 10, 3) := by decide +kernel
theorem dX4_car_159 : decode cX4_car 159 = .ok (.getfield 30, 3) := by decide +kernel
theorem dX4_car_162 : decode cX4_car 162 = .ok (.getfield 130, 3) := by decide +kernel
theorem dX4_car_165 : decode cX4_car 165 = .ok (.iload_n 1, 1) := by decide +kernel
theorem dX4_car_166 : decode cX4_car 166 = .ok (.iaload, 1) := by decide +kernel
theorem dX4_car_167 : decode cX4_car 167 = .ok (.ireturn, 1) := by decide +kernel
theorem dX4_car_168 : decode cX4_car 168 = .ok (.aload_n 0, 1) := by decide +kernel
theorem dX4_car_169 : decode cX4_car 169 = .ok (.getfield 10, 3) := by decide +kernel
theorem dX4_car_172 : decode cX4_car 172 = .ok (.iload_n 1, 1) := by decide +kernel
theorem dX4_car_173 : decode cX4_car 173 = .ok (.invokevirtual 133, 3) := by decide +kernel
theorem dX4_car_176 : decode cX4_car 176 = .ok (.ifCond .eq 7, 3) := by decide +kernel
theorem dX4_car_179 : decode cX4_car 179 = .ok (.iconst 1, 1) := by decide +kernel
theorem dX4_car_180 : decode cX4_car 180 = .ok (.goto 4, 3) := by decide +kernel
theorem dX4_car_183 : decode cX4_car 183 = .ok (.iconst 0, 1) := by decide +kernel
theorem dX4_car_184 : decode cX4_car 184 = .ok (.ireturn, 1) := by decide +kernel
theorem dX4_car_185 : decode cX4_car 185 = .ok (.iconst (-1), 1) := by decide +kernel
theorem dX4_car_186 : decode cX4_car 186 = .ok (.ireturn, 1) := by decide +kernel
set_option maxRecDepth 20000 in
theorem ggX4_caller_X0_has : GoodIn wsX4_caller wsX0_has := goodIn_r _ [15, 16, 24, 25, 26, 27, 28, 29, 30, 31, 32] (by decide +kernel) (by decide +kernel)
set_option maxRecDepth 20000 in
theorem gX4_caller_X0_has : GoodIn wsX4_caller (wsV RX4 136 RX0 yX0_has wsX0_has) := goodIn_app (goodIn_of _ (by decide +kernel)) ggX4_caller_X0_has
theorem dX4_caller_0 : decode cX4_caller 0 = .ok (.aload_n 0, 1) := by decide +kernel
theorem dX4_caller_1 : decode cX4_caller 1 = .ok (.getfield 10, 3) := by decide +kernel
theorem dX4_caller_4 : decode cX4_caller 4 = .ok (.getfield 58, 3) := by decide +kernel
theorem dX4_caller_7 : decode cX4_caller 7 = .ok (.iload_n 1, 1) := by decide +kernel
theorem dX4_caller_8 : decode cX4_caller 8 = .ok (.invokevirtual 136, 3) := by decide +kernel
theorem dX4_caller_11 : decode cX4_caller 11 = .ok (.ifCond .ne 5, 3) := by decide +kernel
theorem dX4_caller_14 : decode cX4_caller 14 = .ok (.iconst (-1), 1) := by decide +kernel
theorem dX4_caller_15 : decode cX4_caller 15 = .ok (.ireturn, 1) := by decide +kernel
theorem dX4_caller_16 : decode cX4_caller 16 = .ok (.iload_n 2, 1) := by decide +kernel
theorem dX4_caller_17 : decode cX4_caller 17 = .ok (.tableswitch 151 0 7 #[47, 60, 73, 86, 99, 112, 125, 138], 47) := by decide +kernel
theorem dX4_caller_64 : decode cX4_caller 64 = .ok (.aload_n 0, 1) := by decide +kernel
theorem dX4_caller_65 : decode cX4_caller 65 = .ok (.getfield 10, 3) := by decide +kernel
theorem dX4_caller_68 : decode cX4_caller 68 = .ok (.getfield 58, 3) := by decide +kernel
theorem dX4_caller_71 : decode cX4_caller 71 = .ok (.getfield 137, 3) := by decide +kernel
theorem dX4_caller_74 : decode cX4_caller 74 = .ok (.iload_n 1, 1) := by decide +kernel
theorem dX4_caller_75 : decode cX4_caller 75 = .ok (.iaload, 1) := by decide +kernel
theorem dX4_caller_76 : decode cX4_caller 76 = .ok (.ireturn, 1) := by decide +kernel
theorem dX4_caller_77 : decode cX4_caller 77 = .ok (.aload_n 0, 1) := by decide +kernel
theorem dX4_caller_78 : decode cX4_caller 78 = .ok (.getfield 10, 3) := by decide +kernel
theorem dX4_caller_81 : decode cX4_caller 81 = .ok (.getfield 58, 3) := by decide +kernel
theorem dX4_caller_84 : decode cX4_caller 84 = .ok (.getfield 138, 3) := by decide +kernel
theorem dX4_caller_87 : decode cX4_caller 87 = .ok (.iload_n 1, 1) := by decide +kernel
theorem dX4_caller_88 : decode cX4_caller 88 = .ok (.iaload, 1) := by decide +kernel
theorem dX4_caller_89 : decode cX4_caller 89 = .ok (.ireturn, 1) := by decide +kernel
theorem dX4_caller_90 : decode cX4_caller 90 = .ok (.aload_n 0, 1) := by decide +kernel
theorem dX4_caller_91 : decode cX4_caller 91 = .ok (.getfield 10, 3) := by decide +kernel
theorem dX4_caller_94 : decode cX4_caller 94 = .ok (.getfield 58, 3) := by decide +kernel
theorem dX4_caller_97 : decode cX4_caller 97 = .ok (.getfield 141, 3) := by decide +kernel
theorem dX4_caller_100 : decode cX4_caller 100 = .ok (.iload_n 1, 1) := by decide +kernel
theorem dX4_caller_101 : decode cX4_caller 101 = .ok (.iaload, 1) := by decide +kernel
theorem dX4_caller_102 : decode cX4_caller 102 = .ok (.ireturn, 1) := by decide +kernel
theorem dX4_caller_103 : decode cX4_caller 103 = .ok (.aload_n 0, 1) := by decide +kernel
theorem dX4_caller_104 : decode cX4_caller 104 = .ok (.getfield 10, 3) := by decide +kernel
theorem dX4_caller_107 : decode cX4_caller 107 = .ok (.getfield 58, 3) := by decide +kernel
theorem dX4_caller_110 : decode cX4_caller 110 = .ok (.getfield 144, 3) := by decide +kernel
theorem dX4_caller_113 : decode cX4_caller 113 = .ok (.iload_n 1, 1) := by decide +kernel
theorem dX4_caller_114 : decode cX4_caller 114 = .ok (.iaload, 1) := by decide +kernel
theorem dX4_caller_115 : decode cX4_caller 115 = .ok (.ireturn, 1) := by decide +kernel
theorem dX4_caller_116 : decode cX4_caller 116 = .ok (.aload_n 0, 1) := by decide +kernel
theorem dX4_caller_117 : decode cX4_caller 117 = .ok (.getfield 10, 3) := by decide +kernel
theorem dX4_caller_120 : decode cX4_caller 120 = .ok (.getfield 58, 3) := by decide +kernel
theorem dX4_caller_123 : decode cX4_caller 123 = .ok (.getfield 147, 3) := by decide +kernel
theorem dX4_caller_126 : decode cX4_caller 126 = .ok (.iload_n 1, 1) := by decide +kernel
theorem dX4_caller_127 : decode cX4_caller 127 = .ok (.iaload, 1) := by decide +kernel
theorem dX4_caller_128 : decode cX4_caller 128 = .ok (.ireturn, 1) := by decide +kernel
theorem dX4_caller_129 : decode cX4_caller 129 = .ok (.aload_n 0, 1) := by decide +kernel
theorem dX4_caller_130 : decode cX4_caller 130 = .ok (.getfield 10, 3) := by decide +kernel
theorem dX4_caller_133 : decode cX4_caller 133 = .ok (.getfield 58, 3) := by decide +kernel
theorem dX4_caller_136 : decode cX4_caller 136 = .ok (.getfield 150, 3) := by decide +kernel
theorem dX4_caller_139 : decode cX4_caller 139 = .ok (.iload_n 1, 1) := by decide +kernel
theorem dX4_caller_140 : decode cX4_caller 140 = .ok (.iaload, 1) := by decide +kernel
theorem dX4_caller_141 : decode cX4_caller 141 = .ok (.ireturn, 1) := by decide +kernel
theorem dX4_caller_142 : decode cX4_caller 142 = .ok (.aload_n 0, 1) := by decide +kernel
theorem dX4_caller_143 : decode cX4_caller 143 = .ok (.getfield 10, 3) := by decide +kernel
theorem dX4_caller_146 : decode cX4_caller 146 = .ok (.getfield 58, 3) := by decide +kernel
theorem dX4_caller_149 : decode cX4_caller 149 = .ok (.getfield 153, 3) := by decide +kernel
theorem dX4_caller_152 : decode cX4_caller 152 = .ok (.iload_n 1, 1) := by decide +kernel
theorem dX4_caller_153 : decode cX4_caller 153 = .ok (.iaload, 1) := by decide +kernel
theorem dX4_caller_154 : decode cX4_caller 154 = .ok (.ireturn, 1) := by decide +kernel
theorem dX4_caller_155 : decode cX4_caller 155 = .ok (.aload_n 0, 1) := by decide +kernel
theorem dX4_caller_156 : decode cX4_caller 156 = .ok (.getfield 10, 3) := by decide +kernel
theorem dX4_caller_159 : decode cX4_caller 159 = .ok (.getfield 58, 3) := by decide +kernel
theorem dX4_caller_162 : decode cX4_caller 162 = .ok (.getfield 156, 3) := by decide +kernel
theorem dX4_caller_165 : decode cX4_caller 165 = .ok (.iload_n 1, 1) := by decide +kernel
theorem dX4_caller_166 : decode cX4_caller 166 = .ok (.iaload, 1) := by decide +kernel
theorem dX4_caller_167 : decode cX4_caller 167 = .ok (.ireturn, 1) := by decide +kernel
theorem dX4_caller_168 : decode cX4_caller 168 = .ok (.iconst (-1), 1) := by decide +kernel
theorem dX4_caller_169 : decode cX4_caller 169 = .ok (.ireturn, 1) := by decide +kernel
set_option maxRecDepth 20000 in
theorem ggX4_group_X0_firstOfGroup : GoodIn wsX4_group wsX0_firstOfGroup := goodIn_r _ [9, 10, 11, 12, 13, 8, 14, 15, 16, 17, 18, 19, 20, 21, 22, 23, 24, 25, 41, 42, 43, 44, 45, 46, 47, 48, 49] (by decide +kernel) (by decide +kernel)
set_option maxRecDepth 20000 in
theorem gX4_group_X0_firstOfGroup : GoodIn wsX4_group (wsV RX4 159 RX0 yX0_firstOfGroup wsX0_firstOfGroup) := goodIn_app (goodIn_of _ (by decide +kernel)) ggX4_group_X0_firstOfGroup
set_option maxRecDepth 20000 in
theorem ggX4_group_X0_has : GoodIn wsX4_group wsX0_has := goodIn_r _ [29, 10, 41, 42, 43, 44, 45, 46, 47, 48, 49] (by decide +kernel) (by decide +kernel)
set_option maxRecDepth 20000 in
theorem gX4_group_X0_has : GoodIn wsX4_group (wsV RX4 136 RX0 yX0_has wsX0_has) := goodIn_app (goodIn_of _ (by decide +kernel)) ggX4_group_X0_has
set_option maxRecDepth 20000 in
theorem ggX4_group_X0_sizeOfGroup : GoodIn wsX4_group wsX0_sizeOfGroup := goodIn_r _ [33, 10, 15, 16, 17, 8, 18, 19, 20, 21, 22, 23, 24, 25, 41, 42, 43, 44, 45, 46, 47, 48, 49] (by decide +kernel) (by decide +kernel)
set_option maxRecDepth 20000 in
theorem gX4_group_X0_sizeOfGroup : GoodIn wsX4_group (wsV RX4 162 RX0 yX0_sizeOfGroup wsX0_sizeOfGroup) := goodIn_app (goodIn_of _ (by decide +kernel)) ggX4_group_X0_sizeOfGroup
theorem dX4_group_0 : decode cX4_group 0 = .ok (.iload_n 1, 1) := by decide +kernel
theorem dX4_group_1 : decode cX4_group 1 = .ok (.ifCond .lt 12, 3) := by decide +kernel
theorem dX4_group_4 : decode cX4_group 4 = .ok (.iload_n 2, 1) := by decide +kernel
theorem dX4_group_5 : decode cX4_group 5 = .ok (.ifCond .lt 8, 3) := by decide +kernel
theorem dX4_group_8 : decode cX4_group 8 = .ok (.iload_n 2, 1) := by decide +kernel
theorem dX4_group_9 : decode cX4_group 9 = .ok (.iconst 3, 1) := by decide +kernel
theorem dX4_group_10 : decode cX4_group 10 = .ok (.if_icmp .le 5, 3) := by decide +kernel
theorem dX4_group_13 : decode cX4_group 13 = .ok (.iconst (-1), 1) := by decide +kernel
theorem dX4_group_14 : decode cX4_group 14 = .ok (.ireturn, 1) := by decide +kernel
theorem dX4_group_15 : decode cX4_group 15 = .ok (.aload_n 0, 1) := by decide +kernel
theorem dX4_group_16 : decode cX4_group 16 = .ok (.getfield 10, 3) := by decide +kernel
theorem dX4_group_19 : decode cX4_group 19 = .ok (.getfield 58, 3) := by decide +kernel
theorem dX4_group_22 : decode cX4_group 22 = .ok (.iload_n 1, 1) := by decide +kernel
theorem dX4_group_23 : decode cX4_group 23 = .ok (.invokevirtual 159, 3) := by decide +kernel
theorem dX4_group_26 : decode cX4_group 26 = .ok (.istore_n 3, 1) := by decide +kernel
theorem dX4_group_27 : decode cX4_group 27 = .ok (.aload_n 0, 1) := by decide +kernel
theorem dX4_group_28 : decode cX4_group 28 = .ok (.getfield 10, 3) := by decide +kernel
theorem dX4_group_31 : decode cX4_group 31 = .ok (.getfield 58, 3) := by decide +kernel
theorem dX4_group_34 : decode cX4_group 34 = .ok (.iload_n 3, 1) := by decide +kernel
theorem dX4_group_35 : decode cX4_group 35 = .ok (.invokevirtual 136, 3) := by decide +kernel
theorem dX4_group_38 : decode cX4_group 38 = .ok (.ifCond .ne 6, 3) := by decide +kernel
theorem dX4_group_41 : decode cX4_group 41 = .ok (.bipush (-9), 2) := by decide +kernel
theorem dX4_group_43 : decode cX4_group 43 = .ok (.ireturn, 1) := by decide +kernel
theorem dX4_group_44 : decode cX4_group 44 = .ok (.iload_n 2, 1) := by decide +kernel
theorem dX4_group_45 : decode cX4_group 45 = .ok (.tableswitch 65 0 2 #[27, 40, 53], 27) := by decide +kernel
theorem dX4_group_72 : decode cX4_group 72 = .ok (.aload_n 0, 1) := by decide +kernel
theorem dX4_group_73 : decode cX4_group 73 = .ok (.getfield 10, 3) := by decide +kernel
theorem dX4_group_76 : decode cX4_group 76 = .ok (.getfield 58, 3) := by decide +kernel
theorem dX4_group_79 : decode cX4_group 79 = .ok (.getfield 137, 3) := by decide +kernel
theorem dX4_group_82 : decode cX4_group 82 = .ok (.iload_n 3, 1) := by decide +kernel
theorem dX4_group_83 : decode cX4_group 83 = .ok (.iaload, 1) := by decide +kernel
theorem dX4_group_84 : decode cX4_group 84 = .ok (.ireturn, 1) := by decide +kernel
theorem dX4_group_85 : decode cX4_group 85 = .ok (.aload_n 0, 1) := by decide +kernel
theorem dX4_group_86 : decode cX4_group 86 = .ok (.getfield 10, 3) := by decide +kernel
theorem dX4_group_89 : decode cX4_group 89 = .ok (.getfield 58, 3) := by decide +kernel
theorem dX4_group_92 : decode cX4_group 92 = .ok (.getfield 138, 3) := by decide +kernel
theorem dX4_group_95 : decode cX4_group 95 = .ok (.iload_n 3, 1) := by decide +kernel
theorem dX4_group_96 : decode cX4_group 96 = .ok (.iaload, 1) := by decide +kernel
theorem dX4_group_97 : decode cX4_group 97 = .ok (.ireturn, 1) := by decide +kernel
theorem dX4_group_98 : decode cX4_group 98 = .ok (.aload_n 0, 1) := by decide +kernel
theorem dX4_group_99 : decode cX4_group 99 = .ok (.getfield 10, 3) := by decide +kernel
theorem dX4_group_102 : decode cX4_group 102 = .ok (.getfield 58, 3) := by decide +kernel
theorem dX4_group_105 : decode cX4_group 105 = .ok (.iload_n 3, 1) := by decide +kernel
theorem dX4_group_106 : decode cX4_group 106 = .ok (.invokevirtual 162, 3) := by decide +kernel
theorem dX4_group_109 : decode cX4_group 109 = .ok (.ireturn, 1) := by decide +kernel
theorem dX4_group_110 : decode cX4_group 110 = .ok (.iload_n 3, 1) := by decide +kernel
theorem dX4_group_111 : decode cX4_group 111 = .ok (.ireturn, 1) := by decide +kernel
theorem dX4_isFloor_0 : decode cX4_isFloor 0 = .ok (.iload_n 0, 1) := by decide +kernel
theorem dX4_isFloor_1 : decode cX4_isFloor 1 = .ok (.ifCond .lt 13, 3) := by decide +kernel
theorem dX4_isFloor_4 : decode cX4_isFloor 4 = .ok (.iload_n 0, 1) := by decide +kernel
theorem dX4_isFloor_5 : decode cX4_isFloor 5 = .ok (.bipush 16, 2) := by decide +kernel
theorem dX4_isFloor_7 : decode cX4_isFloor 7 = .ok (.if_icmp .ge 7, 3) := by decide +kernel
theorem dX4_isFloor_10 : decode cX4_isFloor 10 = .ok (.iconst 1, 1) := by decide +kernel
theorem dX4_isFloor_11 : decode cX4_isFloor 11 = .ok (.goto 4, 3) := by decide +kernel
theorem dX4_isFloor_14 : decode cX4_isFloor 14 = .ok (.iconst 0, 1) := by decide +kernel
theorem dX4_isFloor_15 : decode cX4_isFloor 15 = .ok (.ireturn, 1) := by decide +kernel
set_option maxRecDepth 20000 in
theorem ggX4_isWay_X4_isFloor : GoodIn wsX4_isWay wsX4_isFloor := goodIn_r _ [4] (by decide +kernel) (by decide +kernel)
set_option maxRecDepth 20000 in
theorem gX4_isWay_X4_isFloor : GoodIn wsX4_isWay (va_wsS RX4 26 yX4_isFloor wsX4_isFloor) := goodIn_app (goodIn_of _ (by decide +kernel)) ggX4_isWay_X4_isFloor
theorem dX4_isWay_0 : decode cX4_isWay 0 = .ok (.iload_n 0, 1) := by decide +kernel
theorem dX4_isWay_1 : decode cX4_isWay 1 = .ok (.invokestatic 26, 3) := by decide +kernel
theorem dX4_isWay_4 : decode cX4_isWay 4 = .ok (.ifCond .eq 19, 3) := by decide +kernel
theorem dX4_isWay_7 : decode cX4_isWay 7 = .ok (.iload_n 1, 1) := by decide +kernel
theorem dX4_isWay_8 : decode cX4_isWay 8 = .ok (.invokestatic 26, 3) := by decide +kernel
theorem dX4_isWay_11 : decode cX4_isWay 11 = .ok (.ifCond .eq 12, 3) := by decide +kernel
theorem dX4_isWay_14 : decode cX4_isWay 14 = .ok (.iload_n 0, 1) := by decide +kernel
theorem dX4_isWay_15 : decode cX4_isWay 15 = .ok (.iload_n 1, 1) := by decide +kernel
theorem dX4_isWay_16 : decode cX4_isWay 16 = .ok (.if_icmp .eq 7, 3) := by decide +kernel
theorem dX4_isWay_19 : decode cX4_isWay 19 = .ok (.iconst 1, 1) := by decide +kernel
theorem dX4_isWay_20 : decode cX4_isWay 20 = .ok (.goto 4, 3) := by decide +kernel
theorem dX4_isWay_23 : decode cX4_isWay 23 = .ok (.iconst 0, 1) := by decide +kernel
theorem dX4_isWay_24 : decode cX4_isWay 24 = .ok (.ireturn, 1) := by decide +kernel
end
section
theorem dL_cell_0 : decode cL_cell 0 = .ok (.iload_n 1, 1) := by decide +kernel
theorem dL_cell_1 : decode cL_cell 1 = .ok (.aload_n 0, 1) := by decide +kernel
theorem dL_cell_2 : decode cL_cell 2 = .ok (.arraylength, 1) := by decide +kernel
theorem dL_cell_3 : decode cL_cell 3 = .ok (.if_icmp .ge 9, 3) := by decide +kernel
theorem dL_cell_6 : decode cL_cell 6 = .ok (.aload_n 0, 1) := by decide +kernel
theorem dL_cell_7 : decode cL_cell 7 = .ok (.iload_n 1, 1) := by decide +kernel
theorem dL_cell_8 : decode cL_cell 8 = .ok (.iaload, 1) := by decide +kernel
theorem dL_cell_9 : decode cL_cell 9 = .ok (.goto 9, 3) := by decide +kernel
theorem dL_cell_12 : decode cL_cell 12 = .ok (.ldc 7, 2) := by decide +kernel
theorem dL_cell_14 : decode cL_cell 14 = .ok (.iload_n 1, 1) := by decide +kernel
theorem dL_cell_15 : decode cL_cell 15 = .ok (.iconst 3, 1) := by decide +kernel
theorem dL_cell_16 : decode cL_cell 16 = .ok (.iadd, 1) := by decide +kernel
theorem dL_cell_17 : decode cL_cell 17 = .ok (.imul, 1) := by decide +kernel
theorem dL_cell_18 : decode cL_cell 18 = .ok (.ireturn, 1) := by decide +kernel
theorem dL_low_0 : decode cL_low 0 = .ok (.iload_n 0, 1) := by decide +kernel
theorem dL_low_1 : decode cL_low 1 = .ok (.ldc 8, 2) := by decide +kernel
theorem dL_low_3 : decode cL_low 3 = .ok (.iand, 1) := by decide +kernel
theorem dL_low_4 : decode cL_low 4 = .ok (.iload_n 1, 1) := by decide +kernel
theorem dL_low_5 : decode cL_low 5 = .ok (.irem, 1) := by decide +kernel
theorem dL_low_6 : decode cL_low 6 = .ok (.ireturn, 1) := by decide +kernel
theorem dL_is_0 : decode cL_is 0 = .ok (.lload_n 0, 1) := by decide +kernel
theorem dL_is_1 : decode cL_is 1 = .ok (.bipush 8, 2) := by decide +kernel
theorem dL_is_3 : decode cL_is 3 = .ok (.lshr, 1) := by decide +kernel
theorem dL_is_4 : decode cL_is 4 = .ok (.ldc2_w 9, 3) := by decide +kernel
theorem dL_is_7 : decode cL_is 7 = .ok (.land, 1) := by decide +kernel
theorem dL_is_8 : decode cL_is 8 = .ok (.l2i, 1) := by decide +kernel
theorem dL_is_9 : decode cL_is 9 = .ok (.ireturn, 1) := by decide +kernel
theorem dL_by_0 : decode cL_by 0 = .ok (.lload_n 0, 1) := by decide +kernel
theorem dL_by_1 : decode cL_by 1 = .ok (.bipush 10, 2) := by decide +kernel
theorem dL_by_3 : decode cL_by 3 = .ok (.lshr, 1) := by decide +kernel
theorem dL_by_4 : decode cL_by 4 = .ok (.ldc2_w 11, 3) := by decide +kernel
theorem dL_by_7 : decode cL_by 7 = .ok (.land, 1) := by decide +kernel
theorem dL_by_8 : decode cL_by 8 = .ok (.l2i, 1) := by decide +kernel
theorem dL_by_9 : decode cL_by 9 = .ok (.iconst 1, 1) := by decide +kernel
theorem dL_by_10 : decode cL_by 10 = .ok (.isub, 1) := by decide +kernel
theorem dL_by_11 : decode cL_by 11 = .ok (.ireturn, 1) := by decide +kernel
theorem dL_floor_0 : decode cL_floor 0 = .ok (.lload_n 0, 1) := by decide +kernel
theorem dL_floor_1 : decode cL_floor 1 = .ok (.ldc2_w 13, 3) := by decide +kernel
theorem dL_floor_4 : decode cL_floor 4 = .ok (.land, 1) := by decide +kernel
theorem dL_floor_5 : decode cL_floor 5 = .ok (.l2i, 1) := by decide +kernel
theorem dL_floor_6 : decode cL_floor 6 = .ok (.ireturn, 1) := by decide +kernel
theorem dL_goal_0 : decode cL_goal 0 = .ok (.lload_n 0, 1) := by decide +kernel
theorem dL_goal_1 : decode cL_goal 1 = .ok (.iconst 4, 1) := by decide +kernel
theorem dL_goal_2 : decode cL_goal 2 = .ok (.lshr, 1) := by decide +kernel
theorem dL_goal_3 : decode cL_goal 3 = .ok (.ldc2_w 13, 3) := by decide +kernel
theorem dL_goal_6 : decode cL_goal 6 = .ok (.land, 1) := by decide +kernel
theorem dL_goal_7 : decode cL_goal 7 = .ok (.l2i, 1) := by decide +kernel
theorem dL_goal_8 : decode cL_goal 8 = .ok (.ireturn, 1) := by decide +kernel
theorem dL_far_0 : decode cL_far 0 = .ok (.iload_n 0, 1) := by decide +kernel
theorem dL_far_1 : decode cL_far 1 = .ok (.iload_n 1, 1) := by decide +kernel
theorem dL_far_2 : decode cL_far 2 = .ok (.if_icmp .le 9, 3) := by decide +kernel
theorem dL_far_5 : decode cL_far 5 = .ok (.iload_n 0, 1) := by decide +kernel
theorem dL_far_6 : decode cL_far 6 = .ok (.iload_n 1, 1) := by decide +kernel
theorem dL_far_7 : decode cL_far 7 = .ok (.isub, 1) := by decide +kernel
theorem dL_far_8 : decode cL_far 8 = .ok (.goto 6, 3) := by decide +kernel
theorem dL_far_11 : decode cL_far 11 = .ok (.iload_n 1, 1) := by decide +kernel
theorem dL_far_12 : decode cL_far 12 = .ok (.iload_n 0, 1) := by decide +kernel
theorem dL_far_13 : decode cL_far 13 = .ok (.isub, 1) := by decide +kernel
theorem dL_far_14 : decode cL_far 14 = .ok (.ireturn, 1) := by decide +kernel
set_option maxRecDepth 20000 in
theorem ggL_those_L_is : GoodIn wsL_those wsL_is := goodIn_r _ [4, 5] (by decide +kernel) (by decide +kernel)
set_option maxRecDepth 20000 in
theorem gL_those_L_is : GoodIn wsL_those (va_wsS RL 15 yL_is wsL_is) := goodIn_app (goodIn_of _ (by decide +kernel)) ggL_those_L_is
set_option maxRecDepth 20000 in
theorem ggL_those_L_by : GoodIn wsL_those wsL_by := goodIn_r _ [8, 9] (by decide +kernel) (by decide +kernel)
set_option maxRecDepth 20000 in
theorem gL_those_L_by : GoodIn wsL_those (va_wsS RL 21 yL_by wsL_by) := goodIn_app (goodIn_of _ (by decide +kernel)) ggL_those_L_by
theorem dL_those_0 : decode cL_those 0 = .ok (.iconst 0, 1) := by decide +kernel
theorem dL_those_1 : decode cL_those 1 = .ok (.istore 4, 2) := by decide +kernel
theorem dL_those_3 : decode cL_those 3 = .ok (.iconst 0, 1) := by decide +kernel
theorem dL_those_4 : decode cL_those 4 = .ok (.istore 5, 2) := by decide +kernel
theorem dL_those_6 : decode cL_those 6 = .ok (.iload 5, 2) := by decide +kernel
theorem dL_those_8 : decode cL_those 8 = .ok (.aload_n 0, 1) := by decide +kernel
theorem dL_those_9 : decode cL_those 9 = .ok (.iconst 2, 1) := by decide +kernel
theorem dL_those_10 : decode cL_those 10 = .ok (.iaload, 1) := by decide +kernel
theorem dL_those_11 : decode cL_those 11 = .ok (.if_icmp .ge 45, 3) := by decide +kernel
theorem dL_those_14 : decode cL_those 14 = .ok (.iload 4, 2) := by decide +kernel
theorem dL_those_16 : decode cL_those 16 = .ok (.aload_n 1, 1) := by decide +kernel
theorem dL_those_17 : decode cL_those 17 = .ok (.iload 5, 2) := by decide +kernel
theorem dL_those_19 : decode cL_those 19 = .ok (.laload, 1) := by decide +kernel
theorem dL_those_20 : decode cL_those 20 = .ok (.invokestatic 15, 3) := by decide +kernel
theorem dL_those_23 : decode cL_those 23 = .ok (.iload_n 3, 1) := by decide +kernel
theorem dL_those_24 : decode cL_those 24 = .ok (.if_icmp .ne 22, 3) := by decide +kernel
theorem dL_those_27 : decode cL_those 27 = .ok (.iload_n 2, 1) := by decide +kernel
theorem dL_those_28 : decode cL_those 28 = .ok (.ifCond .lt 14, 3) := by decide +kernel
theorem dL_those_31 : decode cL_those 31 = .ok (.aload_n 1, 1) := by decide +kernel
theorem dL_those_32 : decode cL_those 32 = .ok (.iload 5, 2) := by decide +kernel
theorem dL_those_34 : decode cL_those 34 = .ok (.laload, 1) := by decide +kernel
theorem dL_those_35 : decode cL_those 35 = .ok (.invokestatic 21, 3) := by decide +kernel
theorem dL_those_38 : decode cL_those 38 = .ok (.iload_n 2, 1) := by decide +kernel
theorem dL_those_39 : decode cL_those 39 = .ok (.if_icmp .ne 7, 3) := by decide +kernel
theorem dL_those_42 : decode cL_those 42 = .ok (.iconst 1, 1) := by decide +kernel
theorem dL_those_43 : decode cL_those 43 = .ok (.goto 4, 3) := by decide +kernel
theorem dL_those_46 : decode cL_those 46 = .ok (.iconst 0, 1) := by decide +kernel
theorem dL_those_47 : decode cL_those 47 = .ok (.iadd, 1) := by decide +kernel
theorem dL_those_48 : decode cL_those 48 = .ok (.istore 4, 2) := by decide +kernel
theorem dL_those_50 : decode cL_those 50 = .ok (.iinc 5 1, 3) := by decide +kernel
theorem dL_those_53 : decode cL_those 53 = .ok (.goto (-47), 3) := by decide +kernel
theorem dL_those_56 : decode cL_those 56 = .ok (.iload 4, 2) := by decide +kernel
theorem dL_those_58 : decode cL_those 58 = .ok (.ireturn, 1) := by decide +kernel
set_option maxRecDepth 20000 in
theorem ggL_stops_L_by : GoodIn wsL_stops wsL_by := goodIn_r _ [4, 5] (by decide +kernel) (by decide +kernel)
set_option maxRecDepth 20000 in
theorem gL_stops_L_by : GoodIn wsL_stops (va_wsS RL 21 yL_by wsL_by) := goodIn_app (goodIn_of _ (by decide +kernel)) ggL_stops_L_by
set_option maxRecDepth 20000 in
theorem ggL_stops_L_is : GoodIn wsL_stops wsL_is := goodIn_r _ [8, 9] (by decide +kernel) (by decide +kernel)
set_option maxRecDepth 20000 in
theorem gL_stops_L_is : GoodIn wsL_stops (va_wsS RL 15 yL_is wsL_is) := goodIn_app (goodIn_of _ (by decide +kernel)) ggL_stops_L_is
set_option maxRecDepth 20000 in
theorem ggL_stops_L_goal : GoodIn wsL_stops wsL_goal := goodIn_r _ [12, 13] (by decide +kernel) (by decide +kernel)
set_option maxRecDepth 20000 in
theorem gL_stops_L_goal : GoodIn wsL_stops (va_wsS RL 24 yL_goal wsL_goal) := goodIn_app (goodIn_of _ (by decide +kernel)) ggL_stops_L_goal
set_option maxRecDepth 20000 in
theorem ggL_stops_L_floor : GoodIn wsL_stops wsL_floor := goodIn_r _ [16, 13] (by decide +kernel) (by decide +kernel)
set_option maxRecDepth 20000 in
theorem gL_stops_L_floor : GoodIn wsL_stops (va_wsS RL 27 yL_floor wsL_floor) := goodIn_app (goodIn_of _ (by decide +kernel)) ggL_stops_L_floor
theorem dL_stops_0 : decode cL_stops 0 = .ok (.iload_n 3, 1) := by decide +kernel
theorem dL_stops_1 : decode cL_stops 1 = .ok (.istore 4, 2) := by decide +kernel
theorem dL_stops_3 : decode cL_stops 3 = .ok (.iconst 0, 1) := by decide +kernel
theorem dL_stops_4 : decode cL_stops 4 = .ok (.istore 5, 2) := by decide +kernel
theorem dL_stops_6 : decode cL_stops 6 = .ok (.iconst 0, 1) := by decide +kernel
theorem dL_stops_7 : decode cL_stops 7 = .ok (.istore 6, 2) := by decide +kernel
theorem dL_stops_9 : decode cL_stops 9 = .ok (.iload 6, 2) := by decide +kernel
theorem dL_stops_11 : decode cL_stops 11 = .ok (.aload_n 0, 1) := by decide +kernel
theorem dL_stops_12 : decode cL_stops 12 = .ok (.iconst 2, 1) := by decide +kernel
theorem dL_stops_13 : decode cL_stops 13 = .ok (.iaload, 1) := by decide +kernel
theorem dL_stops_14 : decode cL_stops 14 = .ok (.if_icmp .ge 106, 3) := by decide +kernel
theorem dL_stops_17 : decode cL_stops 17 = .ok (.aload_n 1, 1) := by decide +kernel
theorem dL_stops_18 : decode cL_stops 18 = .ok (.iload 6, 2) := by decide +kernel
theorem dL_stops_20 : decode cL_stops 20 = .ok (.laload, 1) := by decide +kernel
theorem dL_stops_21 : decode cL_stops 21 = .ok (.invokestatic 21, 3) := by decide +kernel
theorem dL_stops_24 : decode cL_stops 24 = .ok (.iload_n 2, 1) := by decide +kernel
theorem dL_stops_25 : decode cL_stops 25 = .ok (.if_icmp .ne 29, 3) := by decide +kernel
theorem dL_stops_28 : decode cL_stops 28 = .ok (.aload_n 1, 1) := by decide +kernel
theorem dL_stops_29 : decode cL_stops 29 = .ok (.iload 6, 2) := by decide +kernel
theorem dL_stops_31 : decode cL_stops 31 = .ok (.laload, 1) := by decide +kernel
theorem dL_stops_32 : decode cL_stops 32 = .ok (.invokestatic 15, 3) := by decide +kernel
theorem dL_stops_35 : decode cL_stops 35 = .ok (.iconst 1, 1) := by decide +kernel
theorem dL_stops_36 : decode cL_stops 36 = .ok (.if_icmp .eq 14, 3) := by decide +kernel
theorem dL_stops_39 : decode cL_stops 39 = .ok (.aload_n 1, 1) := by decide +kernel
theorem dL_stops_40 : decode cL_stops 40 = .ok (.iload 6, 2) := by decide +kernel
theorem dL_stops_42 : decode cL_stops 42 = .ok (.laload, 1) := by decide +kernel
theorem dL_stops_43 : decode cL_stops 43 = .ok (.invokestatic 15, 3) := by decide +kernel
theorem dL_stops_46 : decode cL_stops 46 = .ok (.iconst 2, 1) := by decide +kernel
theorem dL_stops_47 : decode cL_stops 47 = .ok (.if_icmp .ne 7, 3) := by decide +kernel
theorem dL_stops_50 : decode cL_stops 50 = .ok (.iconst 1, 1) := by decide +kernel
theorem dL_stops_51 : decode cL_stops 51 = .ok (.goto 4, 3) := by decide +kernel
theorem dL_stops_54 : decode cL_stops 54 = .ok (.iconst 0, 1) := by decide +kernel
theorem dL_stops_55 : decode cL_stops 55 = .ok (.istore 7, 2) := by decide +kernel
theorem dL_stops_57 : decode cL_stops 57 = .ok (.iload 4, 2) := by decide +kernel
theorem dL_stops_59 : decode cL_stops 59 = .ok (.iload 7, 2) := by decide +kernel
theorem dL_stops_61 : decode cL_stops 61 = .ok (.ifCond .eq 15, 3) := by decide +kernel
theorem dL_stops_64 : decode cL_stops 64 = .ok (.iconst 1, 1) := by decide +kernel
theorem dL_stops_65 : decode cL_stops 65 = .ok (.aload_n 1, 1) := by decide +kernel
theorem dL_stops_66 : decode cL_stops 66 = .ok (.iload 6, 2) := by decide +kernel
theorem dL_stops_68 : decode cL_stops 68 = .ok (.laload, 1) := by decide +kernel
theorem dL_stops_69 : decode cL_stops 69 = .ok (.invokestatic 24, 3) := by decide +kernel
theorem dL_stops_72 : decode cL_stops 72 = .ok (.ishl, 1) := by decide +kernel
theorem dL_stops_73 : decode cL_stops 73 = .ok (.goto 4, 3) := by decide +kernel
theorem dL_stops_76 : decode cL_stops 76 = .ok (.iconst 0, 1) := by decide +kernel
theorem dL_stops_77 : decode cL_stops 77 = .ok (.ior, 1) := by decide +kernel
theorem dL_stops_78 : decode cL_stops 78 = .ok (.istore 4, 2) := by decide +kernel
theorem dL_stops_80 : decode cL_stops 80 = .ok (.iload 4, 2) := by decide +kernel
theorem dL_stops_82 : decode cL_stops 82 = .ok (.iload 7, 2) := by decide +kernel
theorem dL_stops_84 : decode cL_stops 84 = .ok (.ifCond .eq 26, 3) := by decide +kernel
theorem dL_stops_87 : decode cL_stops 87 = .ok (.aload_n 1, 1) := by decide +kernel
theorem dL_stops_88 : decode cL_stops 88 = .ok (.iload 6, 2) := by decide +kernel
theorem dL_stops_90 : decode cL_stops 90 = .ok (.laload, 1) := by decide +kernel
theorem dL_stops_91 : decode cL_stops 91 = .ok (.invokestatic 15, 3) := by decide +kernel
theorem dL_stops_94 : decode cL_stops 94 = .ok (.iconst 1, 1) := by decide +kernel
theorem dL_stops_95 : decode cL_stops 95 = .ok (.if_icmp .ne 15, 3) := by decide +kernel
theorem dL_stops_98 : decode cL_stops 98 = .ok (.iconst 1, 1) := by decide +kernel
theorem dL_stops_99 : decode cL_stops 99 = .ok (.aload_n 1, 1) := by decide +kernel
theorem dL_stops_100 : decode cL_stops 100 = .ok (.iload 6, 2) := by decide +kernel
theorem dL_stops_102 : decode cL_stops 102 = .ok (.laload, 1) := by decide +kernel
theorem dL_stops_103 : decode cL_stops 103 = .ok (.invokestatic 27, 3) := by decide +kernel
theorem dL_stops_106 : decode cL_stops 106 = .ok (.ishl, 1) := by decide +kernel
theorem dL_stops_107 : decode cL_stops 107 = .ok (.goto 4, 3) := by decide +kernel
theorem dL_stops_110 : decode cL_stops 110 = .ok (.iconst 0, 1) := by decide +kernel
theorem dL_stops_111 : decode cL_stops 111 = .ok (.ior, 1) := by decide +kernel
theorem dL_stops_112 : decode cL_stops 112 = .ok (.istore 4, 2) := by decide +kernel
theorem dL_stops_114 : decode cL_stops 114 = .ok (.iinc 6 1, 3) := by decide +kernel
theorem dL_stops_117 : decode cL_stops 117 = .ok (.goto (-108), 3) := by decide +kernel
theorem dL_stops_120 : decode cL_stops 120 = .ok (.iconst 0, 1) := by decide +kernel
theorem dL_stops_121 : decode cL_stops 121 = .ok (.istore 6, 2) := by decide +kernel
theorem dL_stops_123 : decode cL_stops 123 = .ok (.iload 6, 2) := by decide +kernel
theorem dL_stops_125 : decode cL_stops 125 = .ok (.bipush 16, 2) := by decide +kernel
theorem dL_stops_127 : decode cL_stops 127 = .ok (.if_icmp .ge 21, 3) := by decide +kernel
theorem dL_stops_130 : decode cL_stops 130 = .ok (.iload 5, 2) := by decide +kernel
theorem dL_stops_132 : decode cL_stops 132 = .ok (.iload 4, 2) := by decide +kernel
theorem dL_stops_134 : decode cL_stops 134 = .ok (.iload 6, 2) := by decide +kernel
theorem dL_stops_136 : decode cL_stops 136 = .ok (.ishr, 1) := by decide +kernel
theorem dL_stops_137 : decode cL_stops 137 = .ok (.iconst 1, 1) := by decide +kernel
theorem dL_stops_138 : decode cL_stops 138 = .ok (.iand, 1) := by decide +kernel
theorem dL_stops_139 : decode cL_stops 139 = .ok (.iadd, 1) := by decide +kernel
theorem dL_stops_140 : decode cL_stops 140 = .ok (.istore 5, 2) := by decide +kernel
theorem dL_stops_142 : decode cL_stops 142 = .ok (.iinc 6 1, 3) := by decide +kernel
theorem dL_stops_145 : decode cL_stops 145 = .ok (.goto (-22), 3) := by decide +kernel
theorem dL_stops_148 : decode cL_stops 148 = .ok (.iload 5, 2) := by decide +kernel
theorem dL_stops_150 : decode cL_stops 150 = .ok (.ireturn, 1) := by decide +kernel
set_option maxRecDepth 20000 in
theorem ggL_cost_L_far : GoodIn wsL_cost wsL_far := goodIn_r _ [4] (by decide +kernel) (by decide +kernel)
set_option maxRecDepth 20000 in
theorem gL_cost_L_far : GoodIn wsL_cost (va_wsS RL 30 yL_far wsL_far) := goodIn_app (goodIn_of _ (by decide +kernel)) ggL_cost_L_far
set_option maxRecDepth 20000 in
theorem ggL_cost_L_stops : GoodIn wsL_cost wsL_stops := goodIn_r _ [7, 8, 9, 3, 10, 11, 12, 13, 14, 15, 16, 17, 18, 19, 20, 21, 22] (by decide +kernel) (by decide +kernel)
set_option maxRecDepth 20000 in
theorem gL_cost_L_stops : GoodIn wsL_cost (va_wsS RL 34 yL_stops wsL_stops) := goodIn_app (goodIn_of _ (by decide +kernel)) ggL_cost_L_stops
set_option maxRecDepth 20000 in
theorem ggL_cost_L_those : GoodIn wsL_cost wsL_those := goodIn_r _ [25, 12, 13, 3, 14, 15, 8, 9, 10, 11] (by decide +kernel) (by decide +kernel)
set_option maxRecDepth 20000 in
theorem gL_cost_L_those : GoodIn wsL_cost (va_wsS RL 38 yL_those wsL_those) := goodIn_app (goodIn_of _ (by decide +kernel)) ggL_cost_L_those
theorem dL_cost_0 : decode cL_cost 0 = .ok (.bipush 6, 2) := by decide +kernel
theorem dL_cost_2 : decode cL_cost 2 = .ok (.iload 4, 2) := by decide +kernel
theorem dL_cost_4 : decode cL_cost 4 = .ok (.imul, 1) := by decide +kernel
theorem dL_cost_5 : decode cL_cost 5 = .ok (.istore 7, 2) := by decide +kernel
theorem dL_cost_7 : decode cL_cost 7 = .ok (.iload 5, 2) := by decide +kernel
theorem dL_cost_9 : decode cL_cost 9 = .ok (.iload 6, 2) := by decide +kernel
theorem dL_cost_11 : decode cL_cost 11 = .ok (.if_icmp .ge 8, 3) := by decide +kernel
theorem dL_cost_14 : decode cL_cost 14 = .ok (.iload 5, 2) := by decide +kernel
theorem dL_cost_16 : decode cL_cost 16 = .ok (.goto 5, 3) := by decide +kernel
theorem dL_cost_19 : decode cL_cost 19 = .ok (.iload 6, 2) := by decide +kernel
theorem dL_cost_21 : decode cL_cost 21 = .ok (.istore 8, 2) := by decide +kernel
theorem dL_cost_23 : decode cL_cost 23 = .ok (.iload 5, 2) := by decide +kernel
theorem dL_cost_25 : decode cL_cost 25 = .ok (.iload 6, 2) := by decide +kernel
theorem dL_cost_27 : decode cL_cost 27 = .ok (.if_icmp .ge 8, 3) := by decide +kernel
theorem dL_cost_30 : decode cL_cost 30 = .ok (.iload 6, 2) := by decide +kernel
theorem dL_cost_32 : decode cL_cost 32 = .ok (.goto 5, 3) := by decide +kernel
theorem dL_cost_35 : decode cL_cost 35 = .ok (.iload 5, 2) := by decide +kernel
theorem dL_cost_37 : decode cL_cost 37 = .ok (.istore 9, 2) := by decide +kernel
theorem dL_cost_39 : decode cL_cost 39 = .ok (.aload_n 2, 1) := by decide +kernel
theorem dL_cost_40 : decode cL_cost 40 = .ok (.iload 7, 2) := by decide +kernel
theorem dL_cost_42 : decode cL_cost 42 = .ok (.iconst 4, 1) := by decide +kernel
theorem dL_cost_43 : decode cL_cost 43 = .ok (.iadd, 1) := by decide +kernel
theorem dL_cost_44 : decode cL_cost 44 = .ok (.iaload, 1) := by decide +kernel
theorem dL_cost_45 : decode cL_cost 45 = .ok (.ifCond .ne 39, 3) := by decide +kernel
theorem dL_cost_48 : decode cL_cost 48 = .ok (.iload 4, 2) := by decide +kernel
theorem dL_cost_50 : decode cL_cost 50 = .ok (.aload_n 1, 1) := by decide +kernel
theorem dL_cost_51 : decode cL_cost 51 = .ok (.aload_n 0, 1) := by decide +kernel
theorem dL_cost_52 : decode cL_cost 52 = .ok (.iconst 0, 1) := by decide +kernel
theorem dL_cost_53 : decode cL_cost 53 = .ok (.iaload, 1) := by decide +kernel
theorem dL_cost_54 : decode cL_cost 54 = .ok (.bipush 60, 2) := by decide +kernel
theorem dL_cost_56 : decode cL_cost 56 = .ok (.idiv, 1) := by decide +kernel
theorem dL_cost_57 : decode cL_cost 57 = .ok (.bipush 24, 2) := by decide +kernel
theorem dL_cost_59 : decode cL_cost 59 = .ok (.irem, 1) := by decide +kernel
theorem dL_cost_60 : decode cL_cost 60 = .ok (.iaload, 1) := by decide +kernel
theorem dL_cost_61 : decode cL_cost 61 = .ok (.if_icmp .ge 23, 3) := by decide +kernel
theorem dL_cost_64 : decode cL_cost 64 = .ok (.iload 8, 2) := by decide +kernel
theorem dL_cost_66 : decode cL_cost 66 = .ok (.aload_n 2, 1) := by decide +kernel
theorem dL_cost_67 : decode cL_cost 67 = .ok (.iload 7, 2) := by decide +kernel
theorem dL_cost_69 : decode cL_cost 69 = .ok (.iaload, 1) := by decide +kernel
theorem dL_cost_70 : decode cL_cost 70 = .ok (.if_icmp .lt 14, 3) := by decide +kernel
theorem dL_cost_73 : decode cL_cost 73 = .ok (.iload 9, 2) := by decide +kernel
theorem dL_cost_75 : decode cL_cost 75 = .ok (.aload_n 2, 1) := by decide +kernel
theorem dL_cost_76 : decode cL_cost 76 = .ok (.iload 7, 2) := by decide +kernel
theorem dL_cost_78 : decode cL_cost 78 = .ok (.iconst 1, 1) := by decide +kernel
theorem dL_cost_79 : decode cL_cost 79 = .ok (.iadd, 1) := by decide +kernel
theorem dL_cost_80 : decode cL_cost 80 = .ok (.iaload, 1) := by decide +kernel
theorem dL_cost_81 : decode cL_cost 81 = .ok (.if_icmp .le 6, 3) := by decide +kernel
theorem dL_cost_84 : decode cL_cost 84 = .ok (.bipush (-9), 2) := by decide +kernel
theorem dL_cost_86 : decode cL_cost 86 = .ok (.ireturn, 1) := by decide +kernel
theorem dL_cost_87 : decode cL_cost 87 = .ok (.aload_n 2, 1) := by decide +kernel
theorem dL_cost_88 : decode cL_cost 88 = .ok (.iload 7, 2) := by decide +kernel
theorem dL_cost_90 : decode cL_cost 90 = .ok (.iconst 3, 1) := by decide +kernel
theorem dL_cost_91 : decode cL_cost 91 = .ok (.iadd, 1) := by decide +kernel
theorem dL_cost_92 : decode cL_cost 92 = .ok (.iaload, 1) := by decide +kernel
theorem dL_cost_93 : decode cL_cost 93 = .ok (.iload 5, 2) := by decide +kernel
theorem dL_cost_95 : decode cL_cost 95 = .ok (.invokestatic 30, 3) := by decide +kernel
theorem dL_cost_98 : decode cL_cost 98 = .ok (.iconst 2, 1) := by decide +kernel
theorem dL_cost_99 : decode cL_cost 99 = .ok (.aload_n 0, 1) := by decide +kernel
theorem dL_cost_100 : decode cL_cost 100 = .ok (.aload_n 3, 1) := by decide +kernel
theorem dL_cost_101 : decode cL_cost 101 = .ok (.iload 4, 2) := by decide +kernel
theorem dL_cost_103 : decode cL_cost 103 = .ok (.iconst 1, 1) := by decide +kernel
theorem dL_cost_104 : decode cL_cost 104 = .ok (.iload 5, 2) := by decide +kernel
theorem dL_cost_106 : decode cL_cost 106 = .ok (.ishl, 1) := by decide +kernel
theorem dL_cost_107 : decode cL_cost 107 = .ok (.iconst 1, 1) := by decide +kernel
theorem dL_cost_108 : decode cL_cost 108 = .ok (.iload 6, 2) := by decide +kernel
theorem dL_cost_110 : decode cL_cost 110 = .ok (.ishl, 1) := by decide +kernel
theorem dL_cost_111 : decode cL_cost 111 = .ok (.ior, 1) := by decide +kernel
theorem dL_cost_112 : decode cL_cost 112 = .ok (.invokestatic 34, 3) := by decide +kernel
theorem dL_cost_115 : decode cL_cost 115 = .ok (.imul, 1) := by decide +kernel
theorem dL_cost_116 : decode cL_cost 116 = .ok (.iadd, 1) := by decide +kernel
theorem dL_cost_117 : decode cL_cost 117 = .ok (.aload_n 0, 1) := by decide +kernel
theorem dL_cost_118 : decode cL_cost 118 = .ok (.aload_n 3, 1) := by decide +kernel
theorem dL_cost_119 : decode cL_cost 119 = .ok (.iload 4, 2) := by decide +kernel
theorem dL_cost_121 : decode cL_cost 121 = .ok (.iconst 1, 1) := by decide +kernel
theorem dL_cost_122 : decode cL_cost 122 = .ok (.invokestatic 38, 3) := by decide +kernel
theorem dL_cost_125 : decode cL_cost 125 = .ok (.iadd, 1) := by decide +kernel
theorem dL_cost_126 : decode cL_cost 126 = .ok (.aload_n 0, 1) := by decide +kernel
theorem dL_cost_127 : decode cL_cost 127 = .ok (.aload_n 3, 1) := by decide +kernel
theorem dL_cost_128 : decode cL_cost 128 = .ok (.iload 4, 2) := by decide +kernel
theorem dL_cost_130 : decode cL_cost 130 = .ok (.iconst 2, 1) := by decide +kernel
theorem dL_cost_131 : decode cL_cost 131 = .ok (.invokestatic 38, 3) := by decide +kernel
theorem dL_cost_134 : decode cL_cost 134 = .ok (.iadd, 1) := by decide +kernel
theorem dL_cost_135 : decode cL_cost 135 = .ok (.ireturn, 1) := by decide +kernel
set_option maxRecDepth 20000 in
theorem ggL_which_L_cost : GoodIn wsL_which wsL_cost := goodIn_r _ [4, 5, 6, 3, 7, 8, 9, 10, 11, 12, 13, 14, 15, 16, 17, 18, 19, 20, 21, 22, 23, 24, 25, 26, 27, 28] (by decide +kernel) (by decide +kernel)
set_option maxRecDepth 20000 in
theorem gL_which_L_cost : GoodIn wsL_which (va_wsS RL 41 yL_cost wsL_cost) := goodIn_app (goodIn_of _ (by decide +kernel)) ggL_which_L_cost
theorem dL_which_0 : decode cL_which 0 = .ok (.bipush (-9), 2) := by decide +kernel
theorem dL_which_2 : decode cL_which 2 = .ok (.istore 6, 2) := by decide +kernel
theorem dL_which_4 : decode cL_which 4 = .ok (.sipush 9999, 3) := by decide +kernel
theorem dL_which_7 : decode cL_which 7 = .ok (.istore 7, 2) := by decide +kernel
theorem dL_which_9 : decode cL_which 9 = .ok (.aload_n 0, 1) := by decide +kernel
theorem dL_which_10 : decode cL_which 10 = .ok (.iconst 1, 1) := by decide +kernel
theorem dL_which_11 : decode cL_which 11 = .ok (.iaload, 1) := by decide +kernel
theorem dL_which_12 : decode cL_which 12 = .ok (.iconst 1, 1) := by decide +kernel
theorem dL_which_13 : decode cL_which 13 = .ok (.isub, 1) := by decide +kernel
theorem dL_which_14 : decode cL_which 14 = .ok (.istore 8, 2) := by decide +kernel
theorem dL_which_16 : decode cL_which 16 = .ok (.iload 8, 2) := by decide +kernel
theorem dL_which_18 : decode cL_which 18 = .ok (.ifCond .lt 66, 3) := by decide +kernel
theorem dL_which_21 : decode cL_which 21 = .ok (.aload_n 0, 1) := by decide +kernel
theorem dL_which_22 : decode cL_which 22 = .ok (.aload_n 1, 1) := by decide +kernel
theorem dL_which_23 : decode cL_which 23 = .ok (.aload_n 2, 1) := by decide +kernel
theorem dL_which_24 : decode cL_which 24 = .ok (.aload_n 3, 1) := by decide +kernel
theorem dL_which_25 : decode cL_which 25 = .ok (.iload 8, 2) := by decide +kernel
theorem dL_which_27 : decode cL_which 27 = .ok (.iload 4, 2) := by decide +kernel
theorem dL_which_29 : decode cL_which 29 = .ok (.iload 5, 2) := by decide +kernel
theorem dL_which_31 : decode cL_which 31 = .ok (.invokestatic 41, 3) := by decide +kernel
theorem dL_which_34 : decode cL_which 34 = .ok (.istore 9, 2) := by decide +kernel
theorem dL_which_36 : decode cL_which 36 = .ok (.iload 9, 2) := by decide +kernel
theorem dL_which_38 : decode cL_which 38 = .ok (.ifCond .lt 15, 3) := by decide +kernel
theorem dL_which_41 : decode cL_which 41 = .ok (.iload 9, 2) := by decide +kernel
theorem dL_which_43 : decode cL_which 43 = .ok (.iload 7, 2) := by decide +kernel
theorem dL_which_45 : decode cL_which 45 = .ok (.if_icmp .gt 8, 3) := by decide +kernel
theorem dL_which_48 : decode cL_which 48 = .ok (.iload 8, 2) := by decide +kernel
theorem dL_which_50 : decode cL_which 50 = .ok (.goto 5, 3) := by decide +kernel
theorem dL_which_53 : decode cL_which 53 = .ok (.iload 6, 2) := by decide +kernel
theorem dL_which_55 : decode cL_which 55 = .ok (.istore 6, 2) := by decide +kernel
theorem dL_which_57 : decode cL_which 57 = .ok (.iload 9, 2) := by decide +kernel
theorem dL_which_59 : decode cL_which 59 = .ok (.ifCond .lt 15, 3) := by decide +kernel
theorem dL_which_62 : decode cL_which 62 = .ok (.iload 9, 2) := by decide +kernel
theorem dL_which_64 : decode cL_which 64 = .ok (.iload 7, 2) := by decide +kernel
theorem dL_which_66 : decode cL_which 66 = .ok (.if_icmp .gt 8, 3) := by decide +kernel
theorem dL_which_69 : decode cL_which 69 = .ok (.iload 9, 2) := by decide +kernel
theorem dL_which_71 : decode cL_which 71 = .ok (.goto 5, 3) := by decide +kernel
theorem dL_which_74 : decode cL_which 74 = .ok (.iload 7, 2) := by decide +kernel
theorem dL_which_76 : decode cL_which 76 = .ok (.istore 7, 2) := by decide +kernel
theorem dL_which_78 : decode cL_which 78 = .ok (.iinc 8 (-1), 3) := by decide +kernel
theorem dL_which_81 : decode cL_which 81 = .ok (.goto (-65), 3) := by decide +kernel
theorem dL_which_84 : decode cL_which 84 = .ok (.iload 6, 2) := by decide +kernel
theorem dL_which_86 : decode cL_which 86 = .ok (.ireturn, 1) := by decide +kernel
set_option maxRecDepth 20000 in
theorem ggL_gives_L_floor : GoodIn wsL_gives wsL_floor := goodIn_r _ [6, 7] (by decide +kernel) (by decide +kernel)
set_option maxRecDepth 20000 in
theorem gL_gives_L_floor : GoodIn wsL_gives (va_wsS RL 27 yL_floor wsL_floor) := goodIn_app (goodIn_of _ (by decide +kernel)) ggL_gives_L_floor
set_option maxRecDepth 20000 in
theorem ggL_gives_L_goal : GoodIn wsL_gives wsL_goal := goodIn_r _ [10, 7] (by decide +kernel) (by decide +kernel)
set_option maxRecDepth 20000 in
theorem gL_gives_L_goal : GoodIn wsL_gives (va_wsS RL 24 yL_goal wsL_goal) := goodIn_app (goodIn_of _ (by decide +kernel)) ggL_gives_L_goal
set_option maxRecDepth 20000 in
theorem ggL_gives_L_which : GoodIn wsL_gives wsL_which := goodIn_r _ [13, 14, 15, 5, 16, 17, 18, 19, 20, 21, 22, 23, 24, 25, 26, 27, 28, 29, 30, 8, 9, 10, 7, 3, 4, 6, 31, 32, 33] (by decide +kernel) (by decide +kernel)
set_option maxRecDepth 20000 in
theorem gL_gives_L_which : GoodIn wsL_gives (va_wsS RL 45 yL_which wsL_which) := goodIn_app (goodIn_of _ (by decide +kernel)) ggL_gives_L_which
theorem dL_gives_0 : decode cL_gives 0 = .ok (.aload_n 0, 1) := by decide +kernel
theorem dL_gives_1 : decode cL_gives 1 = .ok (.aload_n 1, 1) := by decide +kernel
theorem dL_gives_2 : decode cL_gives 2 = .ok (.aload_n 2, 1) := by decide +kernel
theorem dL_gives_3 : decode cL_gives 3 = .ok (.aload_n 3, 1) := by decide +kernel
theorem dL_gives_4 : decode cL_gives 4 = .ok (.aload_n 3, 1) := by decide +kernel
theorem dL_gives_5 : decode cL_gives 5 = .ok (.iload 4, 2) := by decide +kernel
theorem dL_gives_7 : decode cL_gives 7 = .ok (.laload, 1) := by decide +kernel
theorem dL_gives_8 : decode cL_gives 8 = .ok (.invokestatic 27, 3) := by decide +kernel
theorem dL_gives_11 : decode cL_gives 11 = .ok (.aload_n 3, 1) := by decide +kernel
theorem dL_gives_12 : decode cL_gives 12 = .ok (.iload 4, 2) := by decide +kernel
theorem dL_gives_14 : decode cL_gives 14 = .ok (.laload, 1) := by decide +kernel
theorem dL_gives_15 : decode cL_gives 15 = .ok (.invokestatic 24, 3) := by decide +kernel
theorem dL_gives_18 : decode cL_gives 18 = .ok (.invokestatic 45, 3) := by decide +kernel
theorem dL_gives_21 : decode cL_gives 21 = .ok (.istore 5, 2) := by decide +kernel
theorem dL_gives_23 : decode cL_gives 23 = .ok (.iload 5, 2) := by decide +kernel
theorem dL_gives_25 : decode cL_gives 25 = .ok (.ifCond .lt 26, 3) := by decide +kernel
theorem dL_gives_28 : decode cL_gives 28 = .ok (.aload_n 3, 1) := by decide +kernel
theorem dL_gives_29 : decode cL_gives 29 = .ok (.iload 4, 2) := by decide +kernel
theorem dL_gives_31 : decode cL_gives 31 = .ok (.dup2, 1) := by decide +kernel
theorem dL_gives_32 : decode cL_gives 32 = .ok (.laload, 1) := by decide +kernel
theorem dL_gives_33 : decode cL_gives 33 = .ok (.ldc2_w 49, 3) := by decide +kernel
theorem dL_gives_36 : decode cL_gives 36 = .ok (.iload 5, 2) := by decide +kernel
theorem dL_gives_38 : decode cL_gives 38 = .ok (.i2l, 1) := by decide +kernel
theorem dL_gives_39 : decode cL_gives 39 = .ok (.lconst 1, 1) := by decide +kernel
theorem dL_gives_40 : decode cL_gives 40 = .ok (.ladd, 1) := by decide +kernel
theorem dL_gives_41 : decode cL_gives 41 = .ok (.bipush 10, 2) := by decide +kernel
theorem dL_gives_43 : decode cL_gives 43 = .ok (.lshl, 1) := by decide +kernel
theorem dL_gives_44 : decode cL_gives 44 = .ok (.ladd, 1) := by decide +kernel
theorem dL_gives_45 : decode cL_gives 45 = .ok (.ldc2_w 51, 3) := by decide +kernel
theorem dL_gives_48 : decode cL_gives 48 = .ok (.ladd, 1) := by decide +kernel
theorem dL_gives_49 : decode cL_gives 49 = .ok (.ladd, 1) := by decide +kernel
theorem dL_gives_50 : decode cL_gives 50 = .ok (.lastore, 1) := by decide +kernel
theorem dL_gives_51 : decode cL_gives 51 = .ok (.return_, 1) := by decide +kernel
set_option maxRecDepth 20000 in
theorem ggL_aim_L_is : GoodIn wsL_aim wsL_is := goodIn_r _ [4, 5] (by decide +kernel) (by decide +kernel)
set_option maxRecDepth 20000 in
theorem gL_aim_L_is : GoodIn wsL_aim (va_wsS RL 15 yL_is wsL_is) := goodIn_app (goodIn_of _ (by decide +kernel)) ggL_aim_L_is
set_option maxRecDepth 20000 in
theorem ggL_aim_L_by : GoodIn wsL_aim wsL_by := goodIn_r _ [8, 9] (by decide +kernel) (by decide +kernel)
set_option maxRecDepth 20000 in
theorem gL_aim_L_by : GoodIn wsL_aim (va_wsS RL 21 yL_by wsL_by) := goodIn_app (goodIn_of _ (by decide +kernel)) ggL_aim_L_by
set_option maxRecDepth 20000 in
theorem ggL_aim_L_goal : GoodIn wsL_aim wsL_goal := goodIn_r _ [12, 13] (by decide +kernel) (by decide +kernel)
set_option maxRecDepth 20000 in
theorem gL_aim_L_goal : GoodIn wsL_aim (va_wsS RL 24 yL_goal wsL_goal) := goodIn_app (goodIn_of _ (by decide +kernel)) ggL_aim_L_goal
set_option maxRecDepth 20000 in
theorem ggL_aim_L_floor : GoodIn wsL_aim wsL_floor := goodIn_r _ [16, 13] (by decide +kernel) (by decide +kernel)
set_option maxRecDepth 20000 in
theorem gL_aim_L_floor : GoodIn wsL_aim (va_wsS RL 27 yL_floor wsL_floor) := goodIn_app (goodIn_of _ (by decide +kernel)) ggL_aim_L_floor
theorem dL_aim_0 : decode cL_aim 0 = .ok (.aload_n 1, 1) := by decide +kernel
theorem dL_aim_1 : decode cL_aim 1 = .ok (.bipush 6, 2) := by decide +kernel
theorem dL_aim_3 : decode cL_aim 3 = .ok (.iload_n 3, 1) := by decide +kernel
theorem dL_aim_4 : decode cL_aim 4 = .ok (.imul, 1) := by decide +kernel
theorem dL_aim_5 : decode cL_aim 5 = .ok (.iconst 3, 1) := by decide +kernel
theorem dL_aim_6 : decode cL_aim 6 = .ok (.iadd, 1) := by decide +kernel
theorem dL_aim_7 : decode cL_aim 7 = .ok (.iaload, 1) := by decide +kernel
theorem dL_aim_8 : decode cL_aim 8 = .ok (.istore 4, 2) := by decide +kernel
theorem dL_aim_10 : decode cL_aim 10 = .ok (.iconst 0, 1) := by decide +kernel
theorem dL_aim_11 : decode cL_aim 11 = .ok (.istore 5, 2) := by decide +kernel
theorem dL_aim_13 : decode cL_aim 13 = .ok (.iload 5, 2) := by decide +kernel
theorem dL_aim_15 : decode cL_aim 15 = .ok (.bipush 16, 2) := by decide +kernel
theorem dL_aim_17 : decode cL_aim 17 = .ok (.if_icmp .ge 98, 3) := by decide +kernel
theorem dL_aim_20 : decode cL_aim 20 = .ok (.iconst 0, 1) := by decide +kernel
theorem dL_aim_21 : decode cL_aim 21 = .ok (.istore 6, 2) := by decide +kernel
theorem dL_aim_23 : decode cL_aim 23 = .ok (.iload 6, 2) := by decide +kernel
theorem dL_aim_25 : decode cL_aim 25 = .ok (.iconst 2, 1) := by decide +kernel
theorem dL_aim_26 : decode cL_aim 26 = .ok (.if_icmp .ge 83, 3) := by decide +kernel
theorem dL_aim_29 : decode cL_aim 29 = .ok (.iload 6, 2) := by decide +kernel
theorem dL_aim_31 : decode cL_aim 31 = .ok (.ifCond .ne 11, 3) := by decide +kernel
theorem dL_aim_34 : decode cL_aim 34 = .ok (.iload 4, 2) := by decide +kernel
theorem dL_aim_36 : decode cL_aim 36 = .ok (.iload 5, 2) := by decide +kernel
theorem dL_aim_38 : decode cL_aim 38 = .ok (.isub, 1) := by decide +kernel
theorem dL_aim_39 : decode cL_aim 39 = .ok (.goto 8, 3) := by decide +kernel
theorem dL_aim_42 : decode cL_aim 42 = .ok (.iload 4, 2) := by decide +kernel
theorem dL_aim_44 : decode cL_aim 44 = .ok (.iload 5, 2) := by decide +kernel
theorem dL_aim_46 : decode cL_aim 46 = .ok (.iadd, 1) := by decide +kernel
theorem dL_aim_47 : decode cL_aim 47 = .ok (.istore 7, 2) := by decide +kernel
theorem dL_aim_49 : decode cL_aim 49 = .ok (.iconst 0, 1) := by decide +kernel
theorem dL_aim_50 : decode cL_aim 50 = .ok (.istore 8, 2) := by decide +kernel
theorem dL_aim_52 : decode cL_aim 52 = .ok (.iload 8, 2) := by decide +kernel
theorem dL_aim_54 : decode cL_aim 54 = .ok (.aload_n 0, 1) := by decide +kernel
theorem dL_aim_55 : decode cL_aim 55 = .ok (.iconst 2, 1) := by decide +kernel
theorem dL_aim_56 : decode cL_aim 56 = .ok (.iaload, 1) := by decide +kernel
theorem dL_aim_57 : decode cL_aim 57 = .ok (.if_icmp .ge 46, 3) := by decide +kernel
theorem dL_aim_60 : decode cL_aim 60 = .ok (.aload_n 2, 1) := by decide +kernel
theorem dL_aim_61 : decode cL_aim 61 = .ok (.iload 8, 2) := by decide +kernel
theorem dL_aim_63 : decode cL_aim 63 = .ok (.laload, 1) := by decide +kernel
theorem dL_aim_64 : decode cL_aim 64 = .ok (.invokestatic 15, 3) := by decide +kernel
theorem dL_aim_67 : decode cL_aim 67 = .ok (.iconst 2, 1) := by decide +kernel
theorem dL_aim_68 : decode cL_aim 68 = .ok (.if_icmp .ne 29, 3) := by decide +kernel
theorem dL_aim_71 : decode cL_aim 71 = .ok (.aload_n 2, 1) := by decide +kernel
theorem dL_aim_72 : decode cL_aim 72 = .ok (.iload 8, 2) := by decide +kernel
theorem dL_aim_74 : decode cL_aim 74 = .ok (.laload, 1) := by decide +kernel
theorem dL_aim_75 : decode cL_aim 75 = .ok (.invokestatic 21, 3) := by decide +kernel
theorem dL_aim_78 : decode cL_aim 78 = .ok (.iload_n 3, 1) := by decide +kernel
theorem dL_aim_79 : decode cL_aim 79 = .ok (.if_icmp .ne 18, 3) := by decide +kernel
theorem dL_aim_82 : decode cL_aim 82 = .ok (.aload_n 2, 1) := by decide +kernel
theorem dL_aim_83 : decode cL_aim 83 = .ok (.iload 8, 2) := by decide +kernel
theorem dL_aim_85 : decode cL_aim 85 = .ok (.laload, 1) := by decide +kernel
theorem dL_aim_86 : decode cL_aim 86 = .ok (.invokestatic 24, 3) := by decide +kernel
theorem dL_aim_89 : decode cL_aim 89 = .ok (.iload 7, 2) := by decide +kernel
theorem dL_aim_91 : decode cL_aim 91 = .ok (.if_icmp .ne 6, 3) := by decide +kernel
theorem dL_aim_94 : decode cL_aim 94 = .ok (.iload 7, 2) := by decide +kernel
theorem dL_aim_96 : decode cL_aim 96 = .ok (.ireturn, 1) := by decide +kernel
theorem dL_aim_97 : decode cL_aim 97 = .ok (.iinc 8 1, 3) := by decide +kernel
theorem dL_aim_100 : decode cL_aim 100 = .ok (.goto (-48), 3) := by decide +kernel
theorem dL_aim_103 : decode cL_aim 103 = .ok (.iinc 6 1, 3) := by decide +kernel
theorem dL_aim_106 : decode cL_aim 106 = .ok (.goto (-83), 3) := by decide +kernel
theorem dL_aim_109 : decode cL_aim 109 = .ok (.iinc 5 1, 3) := by decide +kernel
theorem dL_aim_112 : decode cL_aim 112 = .ok (.goto (-99), 3) := by decide +kernel
theorem dL_aim_115 : decode cL_aim 115 = .ok (.iconst 0, 1) := by decide +kernel
theorem dL_aim_116 : decode cL_aim 116 = .ok (.istore 5, 2) := by decide +kernel
theorem dL_aim_118 : decode cL_aim 118 = .ok (.iload 5, 2) := by decide +kernel
theorem dL_aim_120 : decode cL_aim 120 = .ok (.aload_n 0, 1) := by decide +kernel
theorem dL_aim_121 : decode cL_aim 121 = .ok (.iconst 2, 1) := by decide +kernel
theorem dL_aim_122 : decode cL_aim 122 = .ok (.iaload, 1) := by decide +kernel
theorem dL_aim_123 : decode cL_aim 123 = .ok (.if_icmp .ge 39, 3) := by decide +kernel
theorem dL_aim_126 : decode cL_aim 126 = .ok (.aload_n 2, 1) := by decide +kernel
theorem dL_aim_127 : decode cL_aim 127 = .ok (.iload 5, 2) := by decide +kernel
theorem dL_aim_129 : decode cL_aim 129 = .ok (.laload, 1) := by decide +kernel
theorem dL_aim_130 : decode cL_aim 130 = .ok (.invokestatic 15, 3) := by decide +kernel
theorem dL_aim_133 : decode cL_aim 133 = .ok (.iconst 1, 1) := by decide +kernel
theorem dL_aim_134 : decode cL_aim 134 = .ok (.if_icmp .ne 22, 3) := by decide +kernel
theorem dL_aim_137 : decode cL_aim 137 = .ok (.aload_n 2, 1) := by decide +kernel
theorem dL_aim_138 : decode cL_aim 138 = .ok (.iload 5, 2) := by decide +kernel
theorem dL_aim_140 : decode cL_aim 140 = .ok (.laload, 1) := by decide +kernel
theorem dL_aim_141 : decode cL_aim 141 = .ok (.invokestatic 21, 3) := by decide +kernel
theorem dL_aim_144 : decode cL_aim 144 = .ok (.iload_n 3, 1) := by decide +kernel
theorem dL_aim_145 : decode cL_aim 145 = .ok (.if_icmp .ne 11, 3) := by decide +kernel
theorem dL_aim_148 : decode cL_aim 148 = .ok (.aload_n 2, 1) := by decide +kernel
theorem dL_aim_149 : decode cL_aim 149 = .ok (.iload 5, 2) := by decide +kernel
theorem dL_aim_151 : decode cL_aim 151 = .ok (.laload, 1) := by decide +kernel
theorem dL_aim_152 : decode cL_aim 152 = .ok (.invokestatic 27, 3) := by decide +kernel
theorem dL_aim_155 : decode cL_aim 155 = .ok (.ireturn, 1) := by decide +kernel
theorem dL_aim_156 : decode cL_aim 156 = .ok (.iinc 5 1, 3) := by decide +kernel
theorem dL_aim_159 : decode cL_aim 159 = .ok (.goto (-41), 3) := by decide +kernel
theorem dL_aim_162 : decode cL_aim 162 = .ok (.bipush (-9), 2) := by decide +kernel
theorem dL_aim_164 : decode cL_aim 164 = .ok (.ireturn, 1) := by decide +kernel
set_option maxRecDepth 20000 in
theorem ggL_goes_L_aim : GoodIn wsL_goes wsL_aim := goodIn_r _ [5, 6, 7, 4, 8, 9, 10, 11, 12, 13, 14, 15, 16, 17, 18, 19, 20] (by decide +kernel) (by decide +kernel)
set_option maxRecDepth 20000 in
theorem gL_goes_L_aim : GoodIn wsL_goes (va_wsS RL 53 yL_aim wsL_aim) := goodIn_app (goodIn_of _ (by decide +kernel)) ggL_goes_L_aim
set_option maxRecDepth 20000 in
theorem ggL_goes_L_by : GoodIn wsL_goes wsL_by := goodIn_r _ [12, 13] (by decide +kernel) (by decide +kernel)
set_option maxRecDepth 20000 in
theorem gL_goes_L_by : GoodIn wsL_goes (va_wsS RL 21 yL_by wsL_by) := goodIn_app (goodIn_of _ (by decide +kernel)) ggL_goes_L_by
set_option maxRecDepth 20000 in
theorem ggL_goes_L_is : GoodIn wsL_goes wsL_is := goodIn_r _ [8, 9] (by decide +kernel) (by decide +kernel)
set_option maxRecDepth 20000 in
theorem gL_goes_L_is : GoodIn wsL_goes (va_wsS RL 15 yL_is wsL_is) := goodIn_app (goodIn_of _ (by decide +kernel)) ggL_goes_L_is
set_option maxRecDepth 20000 in
theorem ggL_goes_L_goal : GoodIn wsL_goes wsL_goal := goodIn_r _ [16, 17] (by decide +kernel) (by decide +kernel)
set_option maxRecDepth 20000 in
theorem gL_goes_L_goal : GoodIn wsL_goes (va_wsS RL 24 yL_goal wsL_goal) := goodIn_app (goodIn_of _ (by decide +kernel)) ggL_goes_L_goal
set_option maxRecDepth 20000 in
theorem ggL_goes_L_those : GoodIn wsL_goes wsL_those := goodIn_r _ [23, 6, 7, 4, 8, 9, 10, 11, 12, 13] (by decide +kernel) (by decide +kernel)
set_option maxRecDepth 20000 in
theorem gL_goes_L_those : GoodIn wsL_goes (va_wsS RL 38 yL_those wsL_those) := goodIn_app (goodIn_of _ (by decide +kernel)) ggL_goes_L_those
set_option maxRecDepth 20000 in
theorem ggL_goes_L_floor : GoodIn wsL_goes wsL_floor := goodIn_r _ [20, 17] (by decide +kernel) (by decide +kernel)
set_option maxRecDepth 20000 in
theorem gL_goes_L_floor : GoodIn wsL_goes (va_wsS RL 27 yL_floor wsL_floor) := goodIn_app (goodIn_of _ (by decide +kernel)) ggL_goes_L_floor
theorem dL_goes_0 : decode cL_goes 0 = .ok (.bipush 6, 2) := by decide +kernel
theorem dL_goes_2 : decode cL_goes 2 = .ok (.iload 4, 2) := by decide +kernel
theorem dL_goes_4 : decode cL_goes 4 = .ok (.imul, 1) := by decide +kernel
theorem dL_goes_5 : decode cL_goes 5 = .ok (.istore 5, 2) := by decide +kernel
theorem dL_goes_7 : decode cL_goes 7 = .ok (.iconst 0, 1) := by decide +kernel
theorem dL_goes_8 : decode cL_goes 8 = .ok (.istore 6, 2) := by decide +kernel
theorem dL_goes_10 : decode cL_goes 10 = .ok (.iconst 0, 1) := by decide +kernel
theorem dL_goes_11 : decode cL_goes 11 = .ok (.istore 7, 2) := by decide +kernel
theorem dL_goes_13 : decode cL_goes 13 = .ok (.aload_n 0, 1) := by decide +kernel
theorem dL_goes_14 : decode cL_goes 14 = .ok (.aload_n 1, 1) := by decide +kernel
theorem dL_goes_15 : decode cL_goes 15 = .ok (.aload_n 2, 1) := by decide +kernel
theorem dL_goes_16 : decode cL_goes 16 = .ok (.iload 4, 2) := by decide +kernel
theorem dL_goes_18 : decode cL_goes 18 = .ok (.invokestatic 53, 3) := by decide +kernel
theorem dL_goes_21 : decode cL_goes 21 = .ok (.istore 8, 2) := by decide +kernel
theorem dL_goes_23 : decode cL_goes 23 = .ok (.iconst 0, 1) := by decide +kernel
theorem dL_goes_24 : decode cL_goes 24 = .ok (.istore 9, 2) := by decide +kernel
theorem dL_goes_26 : decode cL_goes 26 = .ok (.iload 9, 2) := by decide +kernel
theorem dL_goes_28 : decode cL_goes 28 = .ok (.aload_n 0, 1) := by decide +kernel
theorem dL_goes_29 : decode cL_goes 29 = .ok (.iconst 2, 1) := by decide +kernel
theorem dL_goes_30 : decode cL_goes 30 = .ok (.iaload, 1) := by decide +kernel
theorem dL_goes_31 : decode cL_goes 31 = .ok (.if_icmp .ge 77, 3) := by decide +kernel
theorem dL_goes_34 : decode cL_goes 34 = .ok (.aload_n 2, 1) := by decide +kernel
theorem dL_goes_35 : decode cL_goes 35 = .ok (.iload 9, 2) := by decide +kernel
theorem dL_goes_37 : decode cL_goes 37 = .ok (.laload, 1) := by decide +kernel
theorem dL_goes_38 : decode cL_goes 38 = .ok (.invokestatic 21, 3) := by decide +kernel
theorem dL_goes_41 : decode cL_goes 41 = .ok (.iload 4, 2) := by decide +kernel
theorem dL_goes_43 : decode cL_goes 43 = .ok (.if_icmp .ne 59, 3) := by decide +kernel
theorem dL_goes_46 : decode cL_goes 46 = .ok (.aload_n 2, 1) := by decide +kernel
theorem dL_goes_47 : decode cL_goes 47 = .ok (.iload 9, 2) := by decide +kernel
theorem dL_goes_49 : decode cL_goes 49 = .ok (.laload, 1) := by decide +kernel
theorem dL_goes_50 : decode cL_goes 50 = .ok (.invokestatic 15, 3) := by decide +kernel
theorem dL_goes_53 : decode cL_goes 53 = .ok (.iconst 2, 1) := by decide +kernel
theorem dL_goes_54 : decode cL_goes 54 = .ok (.if_icmp .ne 48, 3) := by decide +kernel
theorem dL_goes_57 : decode cL_goes 57 = .ok (.aload_n 2, 1) := by decide +kernel
theorem dL_goes_58 : decode cL_goes 58 = .ok (.iload 9, 2) := by decide +kernel
theorem dL_goes_60 : decode cL_goes 60 = .ok (.laload, 1) := by decide +kernel
theorem dL_goes_61 : decode cL_goes 61 = .ok (.invokestatic 24, 3) := by decide +kernel
theorem dL_goes_64 : decode cL_goes 64 = .ok (.aload_n 1, 1) := by decide +kernel
theorem dL_goes_65 : decode cL_goes 65 = .ok (.iload 5, 2) := by decide +kernel
theorem dL_goes_67 : decode cL_goes 67 = .ok (.iconst 3, 1) := by decide +kernel
theorem dL_goes_68 : decode cL_goes 68 = .ok (.iadd, 1) := by decide +kernel
theorem dL_goes_69 : decode cL_goes 69 = .ok (.iaload, 1) := by decide +kernel
theorem dL_goes_70 : decode cL_goes 70 = .ok (.if_icmp .ne 32, 3) := by decide +kernel
theorem dL_goes_73 : decode cL_goes 73 = .ok (.aload_n 2, 1) := by decide +kernel
theorem dL_goes_74 : decode cL_goes 74 = .ok (.iload 9, 2) := by decide +kernel
theorem dL_goes_76 : decode cL_goes 76 = .ok (.dup2, 1) := by decide +kernel
theorem dL_goes_77 : decode cL_goes 77 = .ok (.laload, 1) := by decide +kernel
theorem dL_goes_78 : decode cL_goes 78 = .ok (.ldc2_w 49, 3) := by decide +kernel
theorem dL_goes_81 : decode cL_goes 81 = .ok (.ladd, 1) := by decide +kernel
theorem dL_goes_82 : decode cL_goes 82 = .ok (.lastore, 1) := by decide +kernel
theorem dL_goes_83 : decode cL_goes 83 = .ok (.aload_n 3, 1) := by decide +kernel
theorem dL_goes_84 : decode cL_goes 84 = .ok (.iload 9, 2) := by decide +kernel
theorem dL_goes_86 : decode cL_goes 86 = .ok (.dup2, 1) := by decide +kernel
theorem dL_goes_87 : decode cL_goes 87 = .ok (.laload, 1) := by decide +kernel
theorem dL_goes_88 : decode cL_goes 88 = .ok (.aload_n 0, 1) := by decide +kernel
theorem dL_goes_89 : decode cL_goes 89 = .ok (.iconst 0, 1) := by decide +kernel
theorem dL_goes_90 : decode cL_goes 90 = .ok (.iaload, 1) := by decide +kernel
theorem dL_goes_91 : decode cL_goes 91 = .ok (.i2l, 1) := by decide +kernel
theorem dL_goes_92 : decode cL_goes 92 = .ok (.lconst 1, 1) := by decide +kernel
theorem dL_goes_93 : decode cL_goes 93 = .ok (.ladd, 1) := by decide +kernel
theorem dL_goes_94 : decode cL_goes 94 = .ok (.bipush 20, 2) := by decide +kernel
theorem dL_goes_96 : decode cL_goes 96 = .ok (.lshl, 1) := by decide +kernel
theorem dL_goes_97 : decode cL_goes 97 = .ok (.ladd, 1) := by decide +kernel
theorem dL_goes_98 : decode cL_goes 98 = .ok (.lastore, 1) := by decide +kernel
theorem dL_goes_99 : decode cL_goes 99 = .ok (.iinc 6 1, 3) := by decide +kernel
theorem dL_goes_102 : decode cL_goes 102 = .ok (.iinc 9 1, 3) := by decide +kernel
theorem dL_goes_105 : decode cL_goes 105 = .ok (.goto (-79), 3) := by decide +kernel
theorem dL_goes_108 : decode cL_goes 108 = .ok (.aload_n 1, 1) := by decide +kernel
theorem dL_goes_109 : decode cL_goes 109 = .ok (.iload 5, 2) := by decide +kernel
theorem dL_goes_111 : decode cL_goes 111 = .ok (.iconst 2, 1) := by decide +kernel
theorem dL_goes_112 : decode cL_goes 112 = .ok (.iadd, 1) := by decide +kernel
theorem dL_goes_113 : decode cL_goes 113 = .ok (.iaload, 1) := by decide +kernel
theorem dL_goes_114 : decode cL_goes 114 = .ok (.aload_n 0, 1) := by decide +kernel
theorem dL_goes_115 : decode cL_goes 115 = .ok (.aload_n 2, 1) := by decide +kernel
theorem dL_goes_116 : decode cL_goes 116 = .ok (.iload 4, 2) := by decide +kernel
theorem dL_goes_118 : decode cL_goes 118 = .ok (.iconst 2, 1) := by decide +kernel
theorem dL_goes_119 : decode cL_goes 119 = .ok (.invokestatic 38, 3) := by decide +kernel
theorem dL_goes_122 : decode cL_goes 122 = .ok (.isub, 1) := by decide +kernel
theorem dL_goes_123 : decode cL_goes 123 = .ok (.istore 9, 2) := by decide +kernel
theorem dL_goes_125 : decode cL_goes 125 = .ok (.iconst 0, 1) := by decide +kernel
theorem dL_goes_126 : decode cL_goes 126 = .ok (.istore 10, 2) := by decide +kernel
theorem dL_goes_128 : decode cL_goes 128 = .ok (.iload 10, 2) := by decide +kernel
theorem dL_goes_130 : decode cL_goes 130 = .ok (.aload_n 0, 1) := by decide +kernel
theorem dL_goes_131 : decode cL_goes 131 = .ok (.iconst 2, 1) := by decide +kernel
theorem dL_goes_132 : decode cL_goes 132 = .ok (.iaload, 1) := by decide +kernel
theorem dL_goes_133 : decode cL_goes 133 = .ok (.if_icmp .ge 78, 3) := by decide +kernel
theorem dL_goes_136 : decode cL_goes 136 = .ok (.aload_n 2, 1) := by decide +kernel
theorem dL_goes_137 : decode cL_goes 137 = .ok (.iload 10, 2) := by decide +kernel
theorem dL_goes_139 : decode cL_goes 139 = .ok (.laload, 1) := by decide +kernel
theorem dL_goes_140 : decode cL_goes 140 = .ok (.invokestatic 21, 3) := by decide +kernel
theorem dL_goes_143 : decode cL_goes 143 = .ok (.iload 4, 2) := by decide +kernel
theorem dL_goes_145 : decode cL_goes 145 = .ok (.if_icmp .ne 60, 3) := by decide +kernel
theorem dL_goes_148 : decode cL_goes 148 = .ok (.aload_n 2, 1) := by decide +kernel
theorem dL_goes_149 : decode cL_goes 149 = .ok (.iload 10, 2) := by decide +kernel
theorem dL_goes_151 : decode cL_goes 151 = .ok (.laload, 1) := by decide +kernel
theorem dL_goes_152 : decode cL_goes 152 = .ok (.invokestatic 15, 3) := by decide +kernel
theorem dL_goes_155 : decode cL_goes 155 = .ok (.iconst 1, 1) := by decide +kernel
theorem dL_goes_156 : decode cL_goes 156 = .ok (.if_icmp .ne 49, 3) := by decide +kernel
theorem dL_goes_159 : decode cL_goes 159 = .ok (.aload_n 2, 1) := by decide +kernel
theorem dL_goes_160 : decode cL_goes 160 = .ok (.iload 10, 2) := by decide +kernel
theorem dL_goes_162 : decode cL_goes 162 = .ok (.laload, 1) := by decide +kernel
theorem dL_goes_163 : decode cL_goes 163 = .ok (.invokestatic 27, 3) := by decide +kernel
theorem dL_goes_166 : decode cL_goes 166 = .ok (.aload_n 1, 1) := by decide +kernel
theorem dL_goes_167 : decode cL_goes 167 = .ok (.iload 5, 2) := by decide +kernel
theorem dL_goes_169 : decode cL_goes 169 = .ok (.iconst 3, 1) := by decide +kernel
theorem dL_goes_170 : decode cL_goes 170 = .ok (.iadd, 1) := by decide +kernel
theorem dL_goes_171 : decode cL_goes 171 = .ok (.iaload, 1) := by decide +kernel
theorem dL_goes_172 : decode cL_goes 172 = .ok (.if_icmp .ne 33, 3) := by decide +kernel
theorem dL_goes_175 : decode cL_goes 175 = .ok (.iload 7, 2) := by decide +kernel
theorem dL_goes_177 : decode cL_goes 177 = .ok (.iload 9, 2) := by decide +kernel
theorem dL_goes_179 : decode cL_goes 179 = .ok (.if_icmp .ge 26, 3) := by decide +kernel
theorem dL_goes_182 : decode cL_goes 182 = .ok (.aload_n 2, 1) := by decide +kernel
theorem dL_goes_183 : decode cL_goes 183 = .ok (.iload 10, 2) := by decide +kernel
theorem dL_goes_185 : decode cL_goes 185 = .ok (.dup2, 1) := by decide +kernel
theorem dL_goes_186 : decode cL_goes 186 = .ok (.laload, 1) := by decide +kernel
theorem dL_goes_187 : decode cL_goes 187 = .ok (.ldc2_w 49, 3) := by decide +kernel
theorem dL_goes_190 : decode cL_goes 190 = .ok (.ladd, 1) := by decide +kernel
theorem dL_goes_191 : decode cL_goes 191 = .ok (.lastore, 1) := by decide +kernel
theorem dL_goes_192 : decode cL_goes 192 = .ok (.aload_n 3, 1) := by decide +kernel
theorem dL_goes_193 : decode cL_goes 193 = .ok (.iload 10, 2) := by decide +kernel
theorem dL_goes_195 : decode cL_goes 195 = .ok (.aload_n 0, 1) := by decide +kernel
theorem dL_goes_196 : decode cL_goes 196 = .ok (.iconst 0, 1) := by decide +kernel
theorem dL_goes_197 : decode cL_goes 197 = .ok (.iaload, 1) := by decide +kernel
theorem dL_goes_198 : decode cL_goes 198 = .ok (.i2l, 1) := by decide +kernel
theorem dL_goes_199 : decode cL_goes 199 = .ok (.lconst 1, 1) := by decide +kernel
theorem dL_goes_200 : decode cL_goes 200 = .ok (.ladd, 1) := by decide +kernel
theorem dL_goes_201 : decode cL_goes 201 = .ok (.lastore, 1) := by decide +kernel
theorem dL_goes_202 : decode cL_goes 202 = .ok (.iinc 7 1, 3) := by decide +kernel
theorem dL_goes_205 : decode cL_goes 205 = .ok (.iinc 10 1, 3) := by decide +kernel
theorem dL_goes_208 : decode cL_goes 208 = .ok (.goto (-80), 3) := by decide +kernel
theorem dL_goes_211 : decode cL_goes 211 = .ok (.iload 7, 2) := by decide +kernel
theorem dL_goes_213 : decode cL_goes 213 = .ok (.iload 6, 2) := by decide +kernel
theorem dL_goes_215 : decode cL_goes 215 = .ok (.iadd, 1) := by decide +kernel
theorem dL_goes_216 : decode cL_goes 216 = .ok (.ifCond .le 13, 3) := by decide +kernel
theorem dL_goes_219 : decode cL_goes 219 = .ok (.aload_n 0, 1) := by decide +kernel
theorem dL_goes_220 : decode cL_goes 220 = .ok (.iconst 3, 1) := by decide +kernel
theorem dL_goes_221 : decode cL_goes 221 = .ok (.dup2, 1) := by decide +kernel
theorem dL_goes_222 : decode cL_goes 222 = .ok (.iaload, 1) := by decide +kernel
theorem dL_goes_223 : decode cL_goes 223 = .ok (.iconst 1, 1) := by decide +kernel
theorem dL_goes_224 : decode cL_goes 224 = .ok (.iadd, 1) := by decide +kernel
theorem dL_goes_225 : decode cL_goes 225 = .ok (.iastore, 1) := by decide +kernel
theorem dL_goes_226 : decode cL_goes 226 = .ok (.goto 43, 3) := by decide +kernel
theorem dL_goes_229 : decode cL_goes 229 = .ok (.iload 8, 2) := by decide +kernel
theorem dL_goes_231 : decode cL_goes 231 = .ok (.ifCond .lt 38, 3) := by decide +kernel
theorem dL_goes_234 : decode cL_goes 234 = .ok (.aload_n 1, 1) := by decide +kernel
theorem dL_goes_235 : decode cL_goes 235 = .ok (.iload 5, 2) := by decide +kernel
theorem dL_goes_237 : decode cL_goes 237 = .ok (.iconst 3, 1) := by decide +kernel
theorem dL_goes_238 : decode cL_goes 238 = .ok (.iadd, 1) := by decide +kernel
theorem dL_goes_239 : decode cL_goes 239 = .ok (.dup2, 1) := by decide +kernel
theorem dL_goes_240 : decode cL_goes 240 = .ok (.iaload, 1) := by decide +kernel
theorem dL_goes_241 : decode cL_goes 241 = .ok (.iload 8, 2) := by decide +kernel
theorem dL_goes_243 : decode cL_goes 243 = .ok (.aload_n 1, 1) := by decide +kernel
theorem dL_goes_244 : decode cL_goes 244 = .ok (.iload 5, 2) := by decide +kernel
theorem dL_goes_246 : decode cL_goes 246 = .ok (.iconst 3, 1) := by decide +kernel
theorem dL_goes_247 : decode cL_goes 247 = .ok (.iadd, 1) := by decide +kernel
theorem dL_goes_248 : decode cL_goes 248 = .ok (.iaload, 1) := by decide +kernel
theorem dL_goes_249 : decode cL_goes 249 = .ok (.if_icmp .le 7, 3) := by decide +kernel
theorem dL_goes_252 : decode cL_goes 252 = .ok (.iconst 1, 1) := by decide +kernel
theorem dL_goes_253 : decode cL_goes 253 = .ok (.goto 4, 3) := by decide +kernel
theorem dL_goes_256 : decode cL_goes 256 = .ok (.iconst (-1), 1) := by decide +kernel
theorem dL_goes_257 : decode cL_goes 257 = .ok (.iadd, 1) := by decide +kernel
theorem dL_goes_258 : decode cL_goes 258 = .ok (.iastore, 1) := by decide +kernel
theorem dL_goes_259 : decode cL_goes 259 = .ok (.aload_n 1, 1) := by decide +kernel
theorem dL_goes_260 : decode cL_goes 260 = .ok (.iload 5, 2) := by decide +kernel
theorem dL_goes_262 : decode cL_goes 262 = .ok (.iconst 5, 1) := by decide +kernel
theorem dL_goes_263 : decode cL_goes 263 = .ok (.iadd, 1) := by decide +kernel
theorem dL_goes_264 : decode cL_goes 264 = .ok (.dup2, 1) := by decide +kernel
theorem dL_goes_265 : decode cL_goes 265 = .ok (.iaload, 1) := by decide +kernel
theorem dL_goes_266 : decode cL_goes 266 = .ok (.iconst 1, 1) := by decide +kernel
theorem dL_goes_267 : decode cL_goes 267 = .ok (.iadd, 1) := by decide +kernel
theorem dL_goes_268 : decode cL_goes 268 = .ok (.iastore, 1) := by decide +kernel
theorem dL_goes_269 : decode cL_goes 269 = .ok (.return_, 1) := by decide +kernel
set_option maxRecDepth 20000 in
theorem ggL_tick_L_is : GoodIn wsL_tick wsL_is := goodIn_r _ [4, 5] (by decide +kernel) (by decide +kernel)
set_option maxRecDepth 20000 in
theorem gL_tick_L_is : GoodIn wsL_tick (va_wsS RL 15 yL_is wsL_is) := goodIn_app (goodIn_of _ (by decide +kernel)) ggL_tick_L_is
set_option maxRecDepth 20000 in
theorem ggL_tick_L_gives : GoodIn wsL_tick wsL_gives := goodIn_r _ [8, 9, 10, 11, 12, 3, 13, 14, 15, 16, 17, 18, 19, 20, 21, 22, 23, 24, 25, 26, 27, 28, 29, 30, 31, 32, 33, 1, 2, 4, 5, 34, 35, 36] (by decide +kernel) (by decide +kernel)
set_option maxRecDepth 20000 in
theorem gL_tick_L_gives : GoodIn wsL_tick (va_wsS RL 57 yL_gives wsL_gives) := goodIn_app (goodIn_of _ (by decide +kernel)) ggL_tick_L_gives
set_option maxRecDepth 20000 in
theorem ggL_tick_L_goes : GoodIn wsL_tick wsL_goes := goodIn_r _ [39, 9, 40, 41, 3, 42, 1, 2, 4, 5, 30, 31, 32, 33, 15, 16, 17, 14, 11, 12, 13, 34, 35, 36] (by decide +kernel) (by decide +kernel)
set_option maxRecDepth 20000 in
theorem gL_tick_L_goes : GoodIn wsL_tick (va_wsS RL 61 yL_goes wsL_goes) := goodIn_app (goodIn_of _ (by decide +kernel)) ggL_tick_L_goes
theorem dL_tick_0 : decode cL_tick 0 = .ok (.iconst 0, 1) := by decide +kernel
theorem dL_tick_1 : decode cL_tick 1 = .ok (.istore 5, 2) := by decide +kernel
theorem dL_tick_3 : decode cL_tick 3 = .ok (.iload 5, 2) := by decide +kernel
theorem dL_tick_5 : decode cL_tick 5 = .ok (.aload_n 0, 1) := by decide +kernel
theorem dL_tick_6 : decode cL_tick 6 = .ok (.iconst 2, 1) := by decide +kernel
theorem dL_tick_7 : decode cL_tick 7 = .ok (.iaload, 1) := by decide +kernel
theorem dL_tick_8 : decode cL_tick 8 = .ok (.if_icmp .ge 28, 3) := by decide +kernel
theorem dL_tick_11 : decode cL_tick 11 = .ok (.aload_n 3, 1) := by decide +kernel
theorem dL_tick_12 : decode cL_tick 12 = .ok (.iload 5, 2) := by decide +kernel
theorem dL_tick_14 : decode cL_tick 14 = .ok (.laload, 1) := by decide +kernel
theorem dL_tick_15 : decode cL_tick 15 = .ok (.invokestatic 15, 3) := by decide +kernel
theorem dL_tick_18 : decode cL_tick 18 = .ok (.ifCond .ne 12, 3) := by decide +kernel
theorem dL_tick_21 : decode cL_tick 21 = .ok (.aload_n 0, 1) := by decide +kernel
theorem dL_tick_22 : decode cL_tick 22 = .ok (.aload_n 1, 1) := by decide +kernel
theorem dL_tick_23 : decode cL_tick 23 = .ok (.aload_n 2, 1) := by decide +kernel
theorem dL_tick_24 : decode cL_tick 24 = .ok (.aload_n 3, 1) := by decide +kernel
theorem dL_tick_25 : decode cL_tick 25 = .ok (.iload 5, 2) := by decide +kernel
theorem dL_tick_27 : decode cL_tick 27 = .ok (.invokestatic 57, 3) := by decide +kernel
theorem dL_tick_30 : decode cL_tick 30 = .ok (.iinc 5 1, 3) := by decide +kernel
theorem dL_tick_33 : decode cL_tick 33 = .ok (.goto (-30), 3) := by decide +kernel
theorem dL_tick_36 : decode cL_tick 36 = .ok (.iconst 0, 1) := by decide +kernel
theorem dL_tick_37 : decode cL_tick 37 = .ok (.istore 5, 2) := by decide +kernel
theorem dL_tick_39 : decode cL_tick 39 = .ok (.iload 5, 2) := by decide +kernel
theorem dL_tick_41 : decode cL_tick 41 = .ok (.aload_n 0, 1) := by decide +kernel
theorem dL_tick_42 : decode cL_tick 42 = .ok (.iconst 1, 1) := by decide +kernel
theorem dL_tick_43 : decode cL_tick 43 = .ok (.iaload, 1) := by decide +kernel
theorem dL_tick_44 : decode cL_tick 44 = .ok (.if_icmp .ge 31, 3) := by decide +kernel
theorem dL_tick_47 : decode cL_tick 47 = .ok (.aload_n 2, 1) := by decide +kernel
theorem dL_tick_48 : decode cL_tick 48 = .ok (.bipush 6, 2) := by decide +kernel
end
section
theorem dL_tick_50 : decode cL_tick 50 = .ok (.iload 5, 2) := by decide +kernel
theorem dL_tick_52 : decode cL_tick 52 = .ok (.imul, 1) := by decide +kernel
theorem dL_tick_53 : decode cL_tick 53 = .ok (.iconst 4, 1) := by decide +kernel
theorem dL_tick_54 : decode cL_tick 54 = .ok (.iadd, 1) := by decide +kernel
theorem dL_tick_55 : decode cL_tick 55 = .ok (.iaload, 1) := by decide +kernel
theorem dL_tick_56 : decode cL_tick 56 = .ok (.ifCond .ne 13, 3) := by decide +kernel
theorem dL_tick_59 : decode cL_tick 59 = .ok (.aload_n 0, 1) := by decide +kernel
theorem dL_tick_60 : decode cL_tick 60 = .ok (.aload_n 2, 1) := by decide +kernel
theorem dL_tick_61 : decode cL_tick 61 = .ok (.aload_n 3, 1) := by decide +kernel
theorem dL_tick_62 : decode cL_tick 62 = .ok (.aload 4, 2) := by decide +kernel
theorem dL_tick_64 : decode cL_tick 64 = .ok (.iload 5, 2) := by decide +kernel
theorem dL_tick_66 : decode cL_tick 66 = .ok (.invokestatic 61, 3) := by decide +kernel
theorem dL_tick_69 : decode cL_tick 69 = .ok (.iinc 5 1, 3) := by decide +kernel
theorem dL_tick_72 : decode cL_tick 72 = .ok (.goto (-33), 3) := by decide +kernel
theorem dL_tick_75 : decode cL_tick 75 = .ok (.aload_n 0, 1) := by decide +kernel
theorem dL_tick_76 : decode cL_tick 76 = .ok (.iconst 0, 1) := by decide +kernel
theorem dL_tick_77 : decode cL_tick 77 = .ok (.dup2, 1) := by decide +kernel
theorem dL_tick_78 : decode cL_tick 78 = .ok (.iaload, 1) := by decide +kernel
theorem dL_tick_79 : decode cL_tick 79 = .ok (.iconst 1, 1) := by decide +kernel
theorem dL_tick_80 : decode cL_tick 80 = .ok (.iadd, 1) := by decide +kernel
theorem dL_tick_81 : decode cL_tick 81 = .ok (.iastore, 1) := by decide +kernel
theorem dL_tick_82 : decode cL_tick 82 = .ok (.return_, 1) := by decide +kernel
set_option maxRecDepth 20000 in
theorem ggL_fails_L_by : GoodIn wsL_fails wsL_by := goodIn_r _ [7, 8] (by decide +kernel) (by decide +kernel)
set_option maxRecDepth 20000 in
theorem gL_fails_L_by : GoodIn wsL_fails (va_wsS RL 21 yL_by wsL_by) := goodIn_app (goodIn_of _ (by decide +kernel)) ggL_fails_L_by
set_option maxRecDepth 20000 in
theorem ggL_fails_L_is : GoodIn wsL_fails wsL_is := goodIn_r _ [11, 12] (by decide +kernel) (by decide +kernel)
set_option maxRecDepth 20000 in
theorem gL_fails_L_is : GoodIn wsL_fails (va_wsS RL 15 yL_is wsL_is) := goodIn_app (goodIn_of _ (by decide +kernel)) ggL_fails_L_is
set_option maxRecDepth 20000 in
theorem ggL_fails_L_goal : GoodIn wsL_fails wsL_goal := goodIn_r _ [15, 16] (by decide +kernel) (by decide +kernel)
set_option maxRecDepth 20000 in
theorem gL_fails_L_goal : GoodIn wsL_fails (va_wsS RL 24 yL_goal wsL_goal) := goodIn_app (goodIn_of _ (by decide +kernel)) ggL_fails_L_goal
theorem dL_fails_0 : decode cL_fails 0 = .ok (.aload_n 1, 1) := by decide +kernel
theorem dL_fails_1 : decode cL_fails 1 = .ok (.bipush 6, 2) := by decide +kernel
theorem dL_fails_3 : decode cL_fails 3 = .ok (.iload 4, 2) := by decide +kernel
theorem dL_fails_5 : decode cL_fails 5 = .ok (.imul, 1) := by decide +kernel
theorem dL_fails_6 : decode cL_fails 6 = .ok (.iconst 3, 1) := by decide +kernel
theorem dL_fails_7 : decode cL_fails 7 = .ok (.iadd, 1) := by decide +kernel
theorem dL_fails_8 : decode cL_fails 8 = .ok (.iaload, 1) := by decide +kernel
theorem dL_fails_9 : decode cL_fails 9 = .ok (.istore 5, 2) := by decide +kernel
theorem dL_fails_11 : decode cL_fails 11 = .ok (.iconst 0, 1) := by decide +kernel
theorem dL_fails_12 : decode cL_fails 12 = .ok (.istore 6, 2) := by decide +kernel
theorem dL_fails_14 : decode cL_fails 14 = .ok (.iload 6, 2) := by decide +kernel
theorem dL_fails_16 : decode cL_fails 16 = .ok (.aload_n 0, 1) := by decide +kernel
theorem dL_fails_17 : decode cL_fails 17 = .ok (.iconst 2, 1) := by decide +kernel
theorem dL_fails_18 : decode cL_fails 18 = .ok (.iaload, 1) := by decide +kernel
theorem dL_fails_19 : decode cL_fails 19 = .ok (.if_icmp .ge 155, 3) := by decide +kernel
theorem dL_fails_22 : decode cL_fails 22 = .ok (.aload_n 2, 1) := by decide +kernel
theorem dL_fails_23 : decode cL_fails 23 = .ok (.iload 6, 2) := by decide +kernel
theorem dL_fails_25 : decode cL_fails 25 = .ok (.laload, 1) := by decide +kernel
theorem dL_fails_26 : decode cL_fails 26 = .ok (.lstore 7, 2) := by decide +kernel
theorem dL_fails_28 : decode cL_fails 28 = .ok (.lload 7, 2) := by decide +kernel
theorem dL_fails_30 : decode cL_fails 30 = .ok (.invokestatic 21, 3) := by decide +kernel
theorem dL_fails_33 : decode cL_fails 33 = .ok (.iload 4, 2) := by decide +kernel
theorem dL_fails_35 : decode cL_fails 35 = .ok (.if_icmp .ne 34, 3) := by decide +kernel
theorem dL_fails_38 : decode cL_fails 38 = .ok (.lload 7, 2) := by decide +kernel
theorem dL_fails_40 : decode cL_fails 40 = .ok (.invokestatic 15, 3) := by decide +kernel
theorem dL_fails_43 : decode cL_fails 43 = .ok (.iconst 1, 1) := by decide +kernel
theorem dL_fails_44 : decode cL_fails 44 = .ok (.if_icmp .ne 25, 3) := by decide +kernel
theorem dL_fails_47 : decode cL_fails 47 = .ok (.aload_n 2, 1) := by decide +kernel
theorem dL_fails_48 : decode cL_fails 48 = .ok (.iload 6, 2) := by decide +kernel
theorem dL_fails_50 : decode cL_fails 50 = .ok (.lload 7, 2) := by decide +kernel
theorem dL_fails_52 : decode cL_fails 52 = .ok (.ldc2_w 49, 3) := by decide +kernel
theorem dL_fails_55 : decode cL_fails 55 = .ok (.lsub, 1) := by decide +kernel
theorem dL_fails_56 : decode cL_fails 56 = .ok (.iload 4, 2) := by decide +kernel
theorem dL_fails_58 : decode cL_fails 58 = .ok (.i2l, 1) := by decide +kernel
theorem dL_fails_59 : decode cL_fails 59 = .ok (.lconst 1, 1) := by decide +kernel
theorem dL_fails_60 : decode cL_fails 60 = .ok (.ladd, 1) := by decide +kernel
theorem dL_fails_61 : decode cL_fails 61 = .ok (.bipush 10, 2) := by decide +kernel
theorem dL_fails_63 : decode cL_fails 63 = .ok (.lshl, 1) := by decide +kernel
theorem dL_fails_64 : decode cL_fails 64 = .ok (.lsub, 1) := by decide +kernel
theorem dL_fails_65 : decode cL_fails 65 = .ok (.lastore, 1) := by decide +kernel
theorem dL_fails_66 : decode cL_fails 66 = .ok (.goto 102, 3) := by decide +kernel
theorem dL_fails_69 : decode cL_fails 69 = .ok (.lload 7, 2) := by decide +kernel
theorem dL_fails_71 : decode cL_fails 71 = .ok (.invokestatic 21, 3) := by decide +kernel
theorem dL_fails_74 : decode cL_fails 74 = .ok (.iload 4, 2) := by decide +kernel
theorem dL_fails_76 : decode cL_fails 76 = .ok (.if_icmp .ne 92, 3) := by decide +kernel
theorem dL_fails_79 : decode cL_fails 79 = .ok (.lload 7, 2) := by decide +kernel
theorem dL_fails_81 : decode cL_fails 81 = .ok (.invokestatic 15, 3) := by decide +kernel
theorem dL_fails_84 : decode cL_fails 84 = .ok (.iconst 2, 1) := by decide +kernel
theorem dL_fails_85 : decode cL_fails 85 = .ok (.if_icmp .ne 83, 3) := by decide +kernel
theorem dL_fails_88 : decode cL_fails 88 = .ok (.lload 7, 2) := by decide +kernel
theorem dL_fails_90 : decode cL_fails 90 = .ok (.invokestatic 24, 3) := by decide +kernel
theorem dL_fails_93 : decode cL_fails 93 = .ok (.iload 5, 2) := by decide +kernel
theorem dL_fails_95 : decode cL_fails 95 = .ok (.if_icmp .ne 7, 3) := by decide +kernel
theorem dL_fails_98 : decode cL_fails 98 = .ok (.iconst 1, 1) := by decide +kernel
theorem dL_fails_99 : decode cL_fails 99 = .ok (.goto 4, 3) := by decide +kernel
theorem dL_fails_102 : decode cL_fails 102 = .ok (.iconst 0, 1) := by decide +kernel
theorem dL_fails_103 : decode cL_fails 103 = .ok (.istore 9, 2) := by decide +kernel
theorem dL_fails_105 : decode cL_fails 105 = .ok (.aload_n 2, 1) := by decide +kernel
theorem dL_fails_106 : decode cL_fails 106 = .ok (.iload 6, 2) := by decide +kernel
theorem dL_fails_108 : decode cL_fails 108 = .ok (.lload 7, 2) := by decide +kernel
theorem dL_fails_110 : decode cL_fails 110 = .ok (.ldc2_w 65, 3) := by decide +kernel
theorem dL_fails_113 : decode cL_fails 113 = .ok (.land, 1) := by decide +kernel
theorem dL_fails_114 : decode cL_fails 114 = .ok (.iload 5, 2) := by decide +kernel
theorem dL_fails_116 : decode cL_fails 116 = .ok (.i2l, 1) := by decide +kernel
theorem dL_fails_117 : decode cL_fails 117 = .ok (.lor, 1) := by decide +kernel
theorem dL_fails_118 : decode cL_fails 118 = .ok (.iload 9, 2) := by decide +kernel
theorem dL_fails_120 : decode cL_fails 120 = .ok (.ifCond .eq 9, 3) := by decide +kernel
theorem dL_fails_123 : decode cL_fails 123 = .ok (.ldc2_w 49, 3) := by decide +kernel
theorem dL_fails_126 : decode cL_fails 126 = .ok (.goto 15, 3) := by decide +kernel
theorem dL_fails_129 : decode cL_fails 129 = .ok (.ldc2_w 67, 3) := by decide +kernel
theorem dL_fails_132 : decode cL_fails 132 = .ok (.iload 4, 2) := by decide +kernel
theorem dL_fails_134 : decode cL_fails 134 = .ok (.i2l, 1) := by decide +kernel
theorem dL_fails_135 : decode cL_fails 135 = .ok (.lconst 1, 1) := by decide +kernel
theorem dL_fails_136 : decode cL_fails 136 = .ok (.ladd, 1) := by decide +kernel
theorem dL_fails_137 : decode cL_fails 137 = .ok (.bipush 10, 2) := by decide +kernel
theorem dL_fails_139 : decode cL_fails 139 = .ok (.lshl, 1) := by decide +kernel
theorem dL_fails_140 : decode cL_fails 140 = .ok (.lsub, 1) := by decide +kernel
theorem dL_fails_141 : decode cL_fails 141 = .ok (.ladd, 1) := by decide +kernel
theorem dL_fails_142 : decode cL_fails 142 = .ok (.lastore, 1) := by decide +kernel
theorem dL_fails_143 : decode cL_fails 143 = .ok (.aload_n 3, 1) := by decide +kernel
theorem dL_fails_144 : decode cL_fails 144 = .ok (.iload 6, 2) := by decide +kernel
theorem dL_fails_146 : decode cL_fails 146 = .ok (.dup2, 1) := by decide +kernel
theorem dL_fails_147 : decode cL_fails 147 = .ok (.laload, 1) := by decide +kernel
theorem dL_fails_148 : decode cL_fails 148 = .ok (.iload 9, 2) := by decide +kernel
theorem dL_fails_150 : decode cL_fails 150 = .ok (.ifCond .eq 15, 3) := by decide +kernel
theorem dL_fails_153 : decode cL_fails 153 = .ok (.aload_n 0, 1) := by decide +kernel
theorem dL_fails_154 : decode cL_fails 154 = .ok (.iconst 0, 1) := by decide +kernel
theorem dL_fails_155 : decode cL_fails 155 = .ok (.iaload, 1) := by decide +kernel
theorem dL_fails_156 : decode cL_fails 156 = .ok (.i2l, 1) := by decide +kernel
theorem dL_fails_157 : decode cL_fails 157 = .ok (.lconst 1, 1) := by decide +kernel
theorem dL_fails_158 : decode cL_fails 158 = .ok (.ladd, 1) := by decide +kernel
theorem dL_fails_159 : decode cL_fails 159 = .ok (.bipush 20, 2) := by decide +kernel
theorem dL_fails_161 : decode cL_fails 161 = .ok (.lshl, 1) := by decide +kernel
theorem dL_fails_162 : decode cL_fails 162 = .ok (.goto 4, 3) := by decide +kernel
theorem dL_fails_165 : decode cL_fails 165 = .ok (.lconst 0, 1) := by decide +kernel
theorem dL_fails_166 : decode cL_fails 166 = .ok (.ladd, 1) := by decide +kernel
theorem dL_fails_167 : decode cL_fails 167 = .ok (.lastore, 1) := by decide +kernel
theorem dL_fails_168 : decode cL_fails 168 = .ok (.iinc 6 1, 3) := by decide +kernel
theorem dL_fails_171 : decode cL_fails 171 = .ok (.goto (-157), 3) := by decide +kernel
theorem dL_fails_174 : decode cL_fails 174 = .ok (.aload_n 1, 1) := by decide +kernel
theorem dL_fails_175 : decode cL_fails 175 = .ok (.bipush 6, 2) := by decide +kernel
theorem dL_fails_177 : decode cL_fails 177 = .ok (.iload 4, 2) := by decide +kernel
theorem dL_fails_179 : decode cL_fails 179 = .ok (.imul, 1) := by decide +kernel
theorem dL_fails_180 : decode cL_fails 180 = .ok (.iconst 4, 1) := by decide +kernel
theorem dL_fails_181 : decode cL_fails 181 = .ok (.iadd, 1) := by decide +kernel
theorem dL_fails_182 : decode cL_fails 182 = .ok (.iconst 2, 1) := by decide +kernel
theorem dL_fails_183 : decode cL_fails 183 = .ok (.iastore, 1) := by decide +kernel
theorem dL_fails_184 : decode cL_fails 184 = .ok (.return_, 1) := by decide +kernel
set_option maxRecDepth 100000 in
theorem ggL_cars_X4_addCar : GoodIn wsL_cars wsX4_addCar := goodIn_app (a := [.code yX4_addCar cX4_addCar 4 (some .int)]) (goodIn_r [.code yX4_addCar cX4_addCar 4 (some .int)] [5] rfl (by decide +kernel)) (goodIn_app (goodIn_app (goodIn_app (goodIn_app (goodIn_app (goodIn_app (goodIn_r wsX4_addCar_r1 [6, 7, 8, 9, 10, 11, 4, 12, 13, 14, 15, 16, 17, 18, 19, 20, 21, 22, 23, 24, 25, 26, 27, 28] rfl (by decide +kernel)) (goodIn_app (goodIn_r wsX4_addCar_r2 [29, 30, 31, 32, 33, 34, 35, 36, 37, 38, 39, 40, 41, 42, 43, 44, 45, 46, 47, 48, 49, 50, 51, 52] rfl (by decide +kernel)) (goodIn_r wsX4_addCar_r3 [53, 54, 55, 56, 57, 58, 59, 60, 61, 62, 63, 64, 65, 66, 67, 68, 69, 70, 71, 72, 73, 74] rfl (by decide +kernel)))) (goodIn_r wsX40 [151, 152, 153] rfl (by decide +kernel))) (goodIn_r wsX30 [154, 155, 156, 157] rfl (by decide +kernel))) (goodIn_r wsX10 [158, 159, 160, 161, 162, 163, 164, 165] rfl (by decide +kernel))) (goodIn_r wsX20 [166, 167, 168] rfl (by decide +kernel))) (goodIn_r wsX00 [169, 170, 171, 172, 173, 174, 175, 176, 177] rfl (by decide +kernel)))
set_option maxRecDepth 20000 in
theorem gL_cars_X4_addCar : GoodIn wsL_cars (wsV RL 69 RX4 yX4_addCar wsX4_addCar) := goodIn_app (goodIn_of _ (by decide +kernel)) ggL_cars_X4_addCar
set_option maxRecDepth 100000 in
theorem ggL_cars_X4_setAwake : GoodIn wsL_cars wsX4_setAwake := goodIn_app (a := [.code yX4_setAwake cX4_setAwake 4 (some .int)]) (goodIn_r [.code yX4_setAwake cX4_setAwake 4 (some .int)] [78] rfl (by decide +kernel)) (goodIn_app (goodIn_app (goodIn_app (goodIn_app (goodIn_app (goodIn_app (goodIn_r wsX4_setAwake_r1 [9, 6, 79, 13, 14, 15, 16, 17, 18, 19, 20, 21, 22, 23, 24, 25, 26, 27, 28, 29, 30, 31, 32, 33] rfl (by decide +kernel)) (goodIn_app (goodIn_r wsX4_setAwake_r2 [34, 35, 36, 37, 38, 39, 40, 41, 42, 43, 44, 45, 46, 47, 48, 49, 50, 51, 52, 53, 54, 55, 56, 57] rfl (by decide +kernel)) (goodIn_r wsX4_setAwake_r3 [58, 59, 60, 61, 62, 63, 64, 65, 66, 67, 68, 69, 70] rfl (by decide +kernel)))) (goodIn_r wsX40 [151, 152, 153] rfl (by decide +kernel))) (goodIn_r wsX30 [154, 155, 156, 157] rfl (by decide +kernel))) (goodIn_r wsX20 [166, 167, 168] rfl (by decide +kernel))) (goodIn_r wsX10 [158, 159, 160, 161, 162, 163, 164, 165] rfl (by decide +kernel))) (goodIn_r wsX00 [169, 170, 171, 172, 173, 174, 175, 176, 177] rfl (by decide +kernel)))
set_option maxRecDepth 20000 in
theorem gL_cars_X4_setAwake : GoodIn wsL_cars (wsV RL 75 RX4 yX4_setAwake wsX4_setAwake) := goodIn_app (goodIn_of _ (by decide +kernel)) ggL_cars_X4_setAwake
set_option maxRecDepth 100000 in
theorem ggL_cars_X4_hold : GoodIn wsL_cars wsX4_hold := goodIn_app (a := [.code yX4_hold cX4_hold 5 (some .int)]) (goodIn_r [.code yX4_hold cX4_hold 5 (some .int)] [83] rfl (by decide +kernel)) (goodIn_app (goodIn_app (goodIn_app (goodIn_app (goodIn_app (goodIn_app (goodIn_r wsX4_hold_r1 [6, 7, 84, 9, 85, 86, 87, 88, 41, 89, 43, 13, 14, 15, 16, 17, 18, 19, 20, 21, 22, 23, 24, 25] rfl (by decide +kernel)) (goodIn_app (goodIn_r wsX4_hold_r2 [26, 27, 28, 29, 30, 31, 32, 33, 34, 35, 36, 37, 38, 39, 40, 42, 44, 45, 46, 47, 48, 49, 50, 51] rfl (by decide +kernel)) (goodIn_app (goodIn_r wsX4_hold_r3 [52, 53, 54, 55, 56, 57, 58, 59, 60, 61, 62, 63, 64, 65, 66, 67, 68, 69, 70, 90, 91, 92, 93, 94] rfl (by decide +kernel)) (goodIn_r wsX4_hold_r4 [95, 96, 97] rfl (by decide +kernel))))) (goodIn_r wsX40 [151, 152, 153] rfl (by decide +kernel))) (goodIn_r wsX30 [154, 155, 156, 157] rfl (by decide +kernel))) (goodIn_r wsX10 [158, 159, 160, 161, 162, 163, 164, 165] rfl (by decide +kernel))) (goodIn_r wsX20 [166, 167, 168] rfl (by decide +kernel))) (goodIn_r wsX00 [169, 170, 171, 172, 173, 174, 175, 176, 177] rfl (by decide +kernel)))
set_option maxRecDepth 20000 in
theorem gL_cars_X4_hold : GoodIn wsL_cars (wsV RL 78 RX4 yX4_hold wsX4_hold) := goodIn_app (goodIn_of _ (by decide +kernel)) ggL_cars_X4_hold
set_option maxRecDepth 100000 in
theorem ggL_cars_X4_fail : GoodIn wsL_cars wsX4_fail := goodIn_app (a := [.code yX4_fail cX4_fail 2 (some .int)]) (goodIn_r [.code yX4_fail cX4_fail 2 (some .int)] [101] rfl (by decide +kernel)) (goodIn_app (goodIn_app (goodIn_app (goodIn_app (goodIn_app (goodIn_app (goodIn_r wsX4_fail_r1 [6, 7, 84, 9, 85, 86, 87, 88, 41, 89, 43, 13, 14, 15, 16, 17, 18, 19, 20, 21, 22, 23, 24, 25] rfl (by decide +kernel)) (goodIn_app (goodIn_r wsX4_fail_r2 [26, 27, 28, 29, 30, 31, 32, 33, 34, 35, 36, 37, 38, 39, 40, 42, 44, 45, 46, 47, 48, 49, 50, 51] rfl (by decide +kernel)) (goodIn_app (goodIn_r wsX4_fail_r3 [52, 53, 54, 55, 56, 57, 58, 59, 60, 61, 62, 63, 64, 65, 66, 67, 68, 69, 70, 102, 103, 104, 105, 106] rfl (by decide +kernel)) (goodIn_r wsX4_fail_r4 [107, 108, 109, 110, 111, 112, 113, 114, 115, 116, 117, 118, 119, 120, 121, 122, 123] rfl (by decide +kernel))))) (goodIn_r wsX40 [151, 152, 153] rfl (by decide +kernel))) (goodIn_r wsX30 [154, 155, 156, 157] rfl (by decide +kernel))) (goodIn_r wsX10 [158, 159, 160, 161, 162, 163, 164, 165] rfl (by decide +kernel))) (goodIn_r wsX20 [166, 167, 168] rfl (by decide +kernel))) (goodIn_r wsX00 [169, 170, 171, 172, 173, 174, 175, 176, 177] rfl (by decide +kernel)))
set_option maxRecDepth 20000 in
theorem gL_cars_X4_fail : GoodIn wsL_cars (wsV RL 81 RX4 yX4_fail wsX4_fail) := goodIn_app (goodIn_of _ (by decide +kernel)) ggL_cars_X4_fail
set_option maxRecDepth 100000 in
theorem ggL_cars_X4_repair : GoodIn wsL_cars wsX4_repair := goodIn_app (a := [.code yX4_repair cX4_repair 2 (some .int)]) (goodIn_r [.code yX4_repair cX4_repair 2 (some .int)] [127] rfl (by decide +kernel)) (goodIn_app (goodIn_app (goodIn_app (goodIn_app (goodIn_app (goodIn_app (goodIn_r wsX4_repair_r1 [6, 7, 84, 9, 128, 86, 87, 88, 41, 89, 43, 13, 14, 15, 16, 17, 18, 19, 20, 21, 22, 23, 24, 25] rfl (by decide +kernel)) (goodIn_app (goodIn_r wsX4_repair_r2 [26, 27, 28, 29, 30, 31, 32, 33, 34, 35, 36, 37, 38, 39, 40, 42, 44, 45, 46, 47, 48, 49, 50, 51] rfl (by decide +kernel)) (goodIn_r wsX4_repair_r3 [52, 53, 54, 55, 56, 57, 58, 59, 60, 61, 62, 63, 64, 65, 66, 67, 68, 69, 70] rfl (by decide +kernel)))) (goodIn_r wsX40 [151, 152, 153] rfl (by decide +kernel))) (goodIn_r wsX30 [154, 155, 156, 157] rfl (by decide +kernel))) (goodIn_r wsX10 [158, 159, 160, 161, 162, 163, 164, 165] rfl (by decide +kernel))) (goodIn_r wsX20 [166, 167, 168] rfl (by decide +kernel))) (goodIn_r wsX00 [169, 170, 171, 172, 173, 174, 175, 176, 177] rfl (by decide +kernel)))
set_option maxRecDepth 20000 in
theorem gL_cars_X4_repair : GoodIn wsL_cars (wsV RL 85 RX4 yX4_repair wsX4_repair) := goodIn_app (goodIn_of _ (by decide +kernel)) ggL_cars_X4_repair
set_option maxRecDepth 20000 in
theorem ggL_cars_L_those : GoodIn wsL_cars wsL_those := goodIn_r _ [132, 133, 134, 131, 135, 136, 137, 138, 139, 140] (by decide +kernel) (by decide +kernel)
set_option maxRecDepth 20000 in
theorem gL_cars_L_those : GoodIn wsL_cars (va_wsS RL 38 yL_those wsL_those) := goodIn_app (goodIn_of _ (by decide +kernel)) ggL_cars_L_those
set_option maxRecDepth 20000 in
theorem ggL_cars_L_fails : GoodIn wsL_cars wsL_fails := goodIn_r _ [143, 144, 145, 146, 137, 138, 131, 139, 140, 133, 134, 135, 136, 147, 148, 149, 150] (by decide +kernel) (by decide +kernel)
set_option maxRecDepth 20000 in
theorem gL_cars_L_fails : GoodIn wsL_cars (va_wsS RL 88 yL_fails wsL_fails) := goodIn_app (goodIn_of _ (by decide +kernel)) ggL_cars_L_fails
theorem dL_cars_0 : decode cL_cars 0 = .ok (.iload 7, 2) := by decide +kernel
theorem dL_cars_2 : decode cL_cars 2 = .ok (.ifCond .ne 213, 3) := by decide +kernel
theorem dL_cars_5 : decode cL_cars 5 = .ok (.iload 6, 2) := by decide +kernel
theorem dL_cars_7 : decode cL_cars 7 = .ok (.iconst 4, 1) := by decide +kernel
theorem dL_cars_8 : decode cL_cars 8 = .ok (.irem, 1) := by decide +kernel
theorem dL_cars_9 : decode cL_cars 9 = .ok (.ifCond .le 7, 3) := by decide +kernel
theorem dL_cars_12 : decode cL_cars 12 = .ok (.iconst 0, 1) := by decide +kernel
theorem dL_cars_13 : decode cL_cars 13 = .ok (.goto 10, 3) := by decide +kernel
theorem dL_cars_16 : decode cL_cars 16 = .ok (.iload 6, 2) := by decide +kernel
theorem dL_cars_18 : decode cL_cars 18 = .ok (.iconst 4, 1) := by decide +kernel
theorem dL_cars_19 : decode cL_cars 19 = .ok (.idiv, 1) := by decide +kernel
theorem dL_cars_20 : decode cL_cars 20 = .ok (.bipush 15, 2) := by decide +kernel
theorem dL_cars_22 : decode cL_cars 22 = .ok (.irem, 1) := by decide +kernel
theorem dL_cars_23 : decode cL_cars 23 = .ok (.istore 8, 2) := by decide +kernel
theorem dL_cars_25 : decode cL_cars 25 = .ok (.iload 6, 2) := by decide +kernel
theorem dL_cars_27 : decode cL_cars 27 = .ok (.iconst 4, 1) := by decide +kernel
theorem dL_cars_28 : decode cL_cars 28 = .ok (.irem, 1) := by decide +kernel
theorem dL_cars_29 : decode cL_cars 29 = .ok (.iconst 1, 1) := by decide +kernel
theorem dL_cars_30 : decode cL_cars 30 = .ok (.if_icmp .le 8, 3) := by decide +kernel
theorem dL_cars_33 : decode cL_cars 33 = .ok (.bipush 15, 2) := by decide +kernel
theorem dL_cars_35 : decode cL_cars 35 = .ok (.goto 13, 3) := by decide +kernel
theorem dL_cars_38 : decode cL_cars 38 = .ok (.iconst 1, 1) := by decide +kernel
theorem dL_cars_39 : decode cL_cars 39 = .ok (.iload 6, 2) := by decide +kernel
theorem dL_cars_41 : decode cL_cars 41 = .ok (.bipush 60, 2) := by decide +kernel
theorem dL_cars_43 : decode cL_cars 43 = .ok (.idiv, 1) := by decide +kernel
theorem dL_cars_44 : decode cL_cars 44 = .ok (.bipush 15, 2) := by decide +kernel
theorem dL_cars_46 : decode cL_cars 46 = .ok (.irem, 1) := by decide +kernel
theorem dL_cars_47 : decode cL_cars 47 = .ok (.iadd, 1) := by decide +kernel
theorem dL_cars_48 : decode cL_cars 48 = .ok (.istore 9, 2) := by decide +kernel
theorem dL_cars_50 : decode cL_cars 50 = .ok (.iconst 1, 1) := by decide +kernel
theorem dL_cars_51 : decode cL_cars 51 = .ok (.iload 6, 2) := by decide +kernel
theorem dL_cars_53 : decode cL_cars 53 = .ok (.sipush 900, 3) := by decide +kernel
theorem dL_cars_56 : decode cL_cars 56 = .ok (.idiv, 1) := by decide +kernel
theorem dL_cars_57 : decode cL_cars 57 = .ok (.bipush 8, 2) := by decide +kernel
theorem dL_cars_59 : decode cL_cars 59 = .ok (.irem, 1) := by decide +kernel
theorem dL_cars_60 : decode cL_cars 60 = .ok (.iadd, 1) := by decide +kernel
theorem dL_cars_61 : decode cL_cars 61 = .ok (.istore 10, 2) := by decide +kernel
theorem dL_cars_63 : decode cL_cars 63 = .ok (.iload 9, 2) := by decide +kernel
theorem dL_cars_65 : decode cL_cars 65 = .ok (.iload 8, 2) := by decide +kernel
theorem dL_cars_67 : decode cL_cars 67 = .ok (.if_icmp .gt 23, 3) := by decide +kernel
theorem dL_cars_70 : decode cL_cars 70 = .ok (.aload_n 0, 1) := by decide +kernel
theorem dL_cars_71 : decode cL_cars 71 = .ok (.iload 8, 2) := by decide +kernel
theorem dL_cars_73 : decode cL_cars 73 = .ok (.iload 9, 2) := by decide +kernel
theorem dL_cars_75 : decode cL_cars 75 = .ok (.iload 10, 2) := by decide +kernel
theorem dL_cars_77 : decode cL_cars 77 = .ok (.invokevirtual 69, 3) := by decide +kernel
theorem dL_cars_80 : decode cL_cars 80 = .ok (.iconst (-1), 1) := by decide +kernel
theorem dL_cars_81 : decode cL_cars 81 = .ok (.if_icmp .ne 7, 3) := by decide +kernel
theorem dL_cars_84 : decode cL_cars 84 = .ok (.iconst 1, 1) := by decide +kernel
theorem dL_cars_85 : decode cL_cars 85 = .ok (.goto 4, 3) := by decide +kernel
theorem dL_cars_88 : decode cL_cars 88 = .ok (.iconst 0, 1) := by decide +kernel
theorem dL_cars_89 : decode cL_cars 89 = .ok (.ireturn, 1) := by decide +kernel
theorem dL_cars_90 : decode cL_cars 90 = .ok (.aload_n 1, 1) := by decide +kernel
theorem dL_cars_91 : decode cL_cars 91 = .ok (.iconst 1, 1) := by decide +kernel
theorem dL_cars_92 : decode cL_cars 92 = .ok (.iaload, 1) := by decide +kernel
theorem dL_cars_93 : decode cL_cars 93 = .ok (.iconst 5, 1) := by decide +kernel
theorem dL_cars_94 : decode cL_cars 94 = .ok (.if_icmp .ne 24, 3) := by decide +kernel
theorem dL_cars_97 : decode cL_cars 97 = .ok (.aload_n 0, 1) := by decide +kernel
theorem dL_cars_98 : decode cL_cars 98 = .ok (.iload 8, 2) := by decide +kernel
theorem dL_cars_100 : decode cL_cars 100 = .ok (.iload 9, 2) := by decide +kernel
theorem dL_cars_102 : decode cL_cars 102 = .ok (.iload 10, 2) := by decide +kernel
theorem dL_cars_104 : decode cL_cars 104 = .ok (.invokevirtual 69, 3) := by decide +kernel
theorem dL_cars_107 : decode cL_cars 107 = .ok (.bipush (-3), 2) := by decide +kernel
theorem dL_cars_109 : decode cL_cars 109 = .ok (.if_icmp .ne 7, 3) := by decide +kernel
theorem dL_cars_112 : decode cL_cars 112 = .ok (.iconst 1, 1) := by decide +kernel
theorem dL_cars_113 : decode cL_cars 113 = .ok (.goto 4, 3) := by decide +kernel
theorem dL_cars_116 : decode cL_cars 116 = .ok (.iconst 0, 1) := by decide +kernel
theorem dL_cars_117 : decode cL_cars 117 = .ok (.ireturn, 1) := by decide +kernel
theorem dL_cars_118 : decode cL_cars 118 = .ok (.iconst 0, 1) := by decide +kernel
theorem dL_cars_119 : decode cL_cars 119 = .ok (.istore 11, 2) := by decide +kernel
theorem dL_cars_121 : decode cL_cars 121 = .ok (.iload 11, 2) := by decide +kernel
theorem dL_cars_123 : decode cL_cars 123 = .ok (.bipush 6, 2) := by decide +kernel
theorem dL_cars_125 : decode cL_cars 125 = .ok (.if_icmp .ge 59, 3) := by decide +kernel
theorem dL_cars_128 : decode cL_cars 128 = .ok (.aload_n 3, 1) := by decide +kernel
theorem dL_cars_129 : decode cL_cars 129 = .ok (.bipush 6, 2) := by decide +kernel
theorem dL_cars_131 : decode cL_cars 131 = .ok (.aload_n 1, 1) := by decide +kernel
theorem dL_cars_132 : decode cL_cars 132 = .ok (.iconst 1, 1) := by decide +kernel
theorem dL_cars_133 : decode cL_cars 133 = .ok (.iaload, 1) := by decide +kernel
theorem dL_cars_134 : decode cL_cars 134 = .ok (.imul, 1) := by decide +kernel
theorem dL_cars_135 : decode cL_cars 135 = .ok (.iload 11, 2) := by decide +kernel
theorem dL_cars_137 : decode cL_cars 137 = .ok (.iadd, 1) := by decide +kernel
theorem dL_cars_138 : decode cL_cars 138 = .ok (.iload 11, 2) := by decide +kernel
theorem dL_cars_140 : decode cL_cars 140 = .ok (.ifCond .eq 9, 3) := by decide +kernel
theorem dL_cars_143 : decode cL_cars 143 = .ok (.iload 11, 2) := by decide +kernel
theorem dL_cars_145 : decode cL_cars 145 = .ok (.iconst 3, 1) := by decide +kernel
theorem dL_cars_146 : decode cL_cars 146 = .ok (.if_icmp .ne 8, 3) := by decide +kernel
theorem dL_cars_149 : decode cL_cars 149 = .ok (.iload 8, 2) := by decide +kernel
theorem dL_cars_151 : decode cL_cars 151 = .ok (.goto 26, 3) := by decide +kernel
theorem dL_cars_154 : decode cL_cars 154 = .ok (.iload 11, 2) := by decide +kernel
theorem dL_cars_156 : decode cL_cars 156 = .ok (.iconst 1, 1) := by decide +kernel
theorem dL_cars_157 : decode cL_cars 157 = .ok (.if_icmp .ne 8, 3) := by decide +kernel
theorem dL_cars_160 : decode cL_cars 160 = .ok (.iload 9, 2) := by decide +kernel
theorem dL_cars_162 : decode cL_cars 162 = .ok (.goto 15, 3) := by decide +kernel
theorem dL_cars_165 : decode cL_cars 165 = .ok (.iload 11, 2) := by decide +kernel
theorem dL_cars_167 : decode cL_cars 167 = .ok (.iconst 2, 1) := by decide +kernel
theorem dL_cars_168 : decode cL_cars 168 = .ok (.if_icmp .ne 8, 3) := by decide +kernel
theorem dL_cars_171 : decode cL_cars 171 = .ok (.iload 10, 2) := by decide +kernel
theorem dL_cars_173 : decode cL_cars 173 = .ok (.goto 4, 3) := by decide +kernel
theorem dL_cars_176 : decode cL_cars 176 = .ok (.iconst 0, 1) := by decide +kernel
theorem dL_cars_177 : decode cL_cars 177 = .ok (.iastore, 1) := by decide +kernel
theorem dL_cars_178 : decode cL_cars 178 = .ok (.iinc 11 1, 3) := by decide +kernel
theorem dL_cars_181 : decode cL_cars 181 = .ok (.goto (-60), 3) := by decide +kernel
theorem dL_cars_184 : decode cL_cars 184 = .ok (.aload_n 1, 1) := by decide +kernel
theorem dL_cars_185 : decode cL_cars 185 = .ok (.iconst 1, 1) := by decide +kernel
theorem dL_cars_186 : decode cL_cars 186 = .ok (.dup2, 1) := by decide +kernel
theorem dL_cars_187 : decode cL_cars 187 = .ok (.iaload, 1) := by decide +kernel
theorem dL_cars_188 : decode cL_cars 188 = .ok (.iconst 1, 1) := by decide +kernel
theorem dL_cars_189 : decode cL_cars 189 = .ok (.iadd, 1) := by decide +kernel
theorem dL_cars_190 : decode cL_cars 190 = .ok (.iastore, 1) := by decide +kernel
theorem dL_cars_191 : decode cL_cars 191 = .ok (.aload_n 0, 1) := by decide +kernel
theorem dL_cars_192 : decode cL_cars 192 = .ok (.iload 8, 2) := by decide +kernel
theorem dL_cars_194 : decode cL_cars 194 = .ok (.iload 9, 2) := by decide +kernel
theorem dL_cars_196 : decode cL_cars 196 = .ok (.iload 10, 2) := by decide +kernel
theorem dL_cars_198 : decode cL_cars 198 = .ok (.invokevirtual 69, 3) := by decide +kernel
theorem dL_cars_201 : decode cL_cars 201 = .ok (.aload_n 1, 1) := by decide +kernel
theorem dL_cars_202 : decode cL_cars 202 = .ok (.iconst 1, 1) := by decide +kernel
theorem dL_cars_203 : decode cL_cars 203 = .ok (.iaload, 1) := by decide +kernel
theorem dL_cars_204 : decode cL_cars 204 = .ok (.iconst 1, 1) := by decide +kernel
theorem dL_cars_205 : decode cL_cars 205 = .ok (.isub, 1) := by decide +kernel
theorem dL_cars_206 : decode cL_cars 206 = .ok (.if_icmp .ne 7, 3) := by decide +kernel
theorem dL_cars_209 : decode cL_cars 209 = .ok (.iconst 1, 1) := by decide +kernel
theorem dL_cars_210 : decode cL_cars 210 = .ok (.goto 4, 3) := by decide +kernel
theorem dL_cars_213 : decode cL_cars 213 = .ok (.iconst 0, 1) := by decide +kernel
theorem dL_cars_214 : decode cL_cars 214 = .ok (.ireturn, 1) := by decide +kernel
theorem dL_cars_215 : decode cL_cars 215 = .ok (.iload 7, 2) := by decide +kernel
theorem dL_cars_217 : decode cL_cars 217 = .ok (.iconst 1, 1) := by decide +kernel
theorem dL_cars_218 : decode cL_cars 218 = .ok (.if_icmp .ne 71, 3) := by decide +kernel
theorem dL_cars_221 : decode cL_cars 221 = .ok (.iload 6, 2) := by decide +kernel
theorem dL_cars_223 : decode cL_cars 223 = .ok (.iconst 3, 1) := by decide +kernel
theorem dL_cars_224 : decode cL_cars 224 = .ok (.irem, 1) := by decide +kernel
theorem dL_cars_225 : decode cL_cars 225 = .ok (.ifCond .ne 15, 3) := by decide +kernel
theorem dL_cars_228 : decode cL_cars 228 = .ok (.aload_n 1, 1) := by decide +kernel
theorem dL_cars_229 : decode cL_cars 229 = .ok (.iconst 0, 1) := by decide +kernel
theorem dL_cars_230 : decode cL_cars 230 = .ok (.iaload, 1) := by decide +kernel
theorem dL_cars_231 : decode cL_cars 231 = .ok (.bipush 60, 2) := by decide +kernel
theorem dL_cars_233 : decode cL_cars 233 = .ok (.idiv, 1) := by decide +kernel
theorem dL_cars_234 : decode cL_cars 234 = .ok (.bipush 24, 2) := by decide +kernel
theorem dL_cars_236 : decode cL_cars 236 = .ok (.irem, 1) := by decide +kernel
theorem dL_cars_237 : decode cL_cars 237 = .ok (.goto 10, 3) := by decide +kernel
theorem dL_cars_240 : decode cL_cars 240 = .ok (.iload 6, 2) := by decide +kernel
theorem dL_cars_242 : decode cL_cars 242 = .ok (.iconst 3, 1) := by decide +kernel
theorem dL_cars_243 : decode cL_cars 243 = .ok (.idiv, 1) := by decide +kernel
theorem dL_cars_244 : decode cL_cars 244 = .ok (.bipush 24, 2) := by decide +kernel
theorem dL_cars_246 : decode cL_cars 246 = .ok (.irem, 1) := by decide +kernel
theorem dL_cars_247 : decode cL_cars 247 = .ok (.istore 8, 2) := by decide +kernel
theorem dL_cars_249 : decode cL_cars 249 = .ok (.aload_n 2, 1) := by decide +kernel
theorem dL_cars_250 : decode cL_cars 250 = .ok (.iload 8, 2) := by decide +kernel
theorem dL_cars_252 : decode cL_cars 252 = .ok (.iaload, 1) := by decide +kernel
theorem dL_cars_253 : decode cL_cars 253 = .ok (.istore 9, 2) := by decide +kernel
theorem dL_cars_255 : decode cL_cars 255 = .ok (.aload_n 2, 1) := by decide +kernel
theorem dL_cars_256 : decode cL_cars 256 = .ok (.iload 8, 2) := by decide +kernel
theorem dL_cars_258 : decode cL_cars 258 = .ok (.iconst 1, 1) := by decide +kernel
theorem dL_cars_259 : decode cL_cars 259 = .ok (.iload 6, 2) := by decide +kernel
theorem dL_cars_261 : decode cL_cars 261 = .ok (.bipush 72, 2) := by decide +kernel
theorem dL_cars_263 : decode cL_cars 263 = .ok (.idiv, 1) := by decide +kernel
theorem dL_cars_264 : decode cL_cars 264 = .ok (.iconst 5, 1) := by decide +kernel
theorem dL_cars_265 : decode cL_cars 265 = .ok (.irem, 1) := by decide +kernel
theorem dL_cars_266 : decode cL_cars 266 = .ok (.iadd, 1) := by decide +kernel
theorem dL_cars_267 : decode cL_cars 267 = .ok (.iastore, 1) := by decide +kernel
theorem dL_cars_268 : decode cL_cars 268 = .ok (.aload_n 0, 1) := by decide +kernel
theorem dL_cars_269 : decode cL_cars 269 = .ok (.iload 8, 2) := by decide +kernel
theorem dL_cars_271 : decode cL_cars 271 = .ok (.aload_n 2, 1) := by decide +kernel
theorem dL_cars_272 : decode cL_cars 272 = .ok (.iload 8, 2) := by decide +kernel
theorem dL_cars_274 : decode cL_cars 274 = .ok (.iaload, 1) := by decide +kernel
theorem dL_cars_275 : decode cL_cars 275 = .ok (.invokevirtual 75, 3) := by decide +kernel
theorem dL_cars_278 : decode cL_cars 278 = .ok (.iload 9, 2) := by decide +kernel
theorem dL_cars_280 : decode cL_cars 280 = .ok (.if_icmp .ne 7, 3) := by decide +kernel
theorem dL_cars_283 : decode cL_cars 283 = .ok (.iconst 1, 1) := by decide +kernel
theorem dL_cars_284 : decode cL_cars 284 = .ok (.goto 4, 3) := by decide +kernel
theorem dL_cars_287 : decode cL_cars 287 = .ok (.iconst 0, 1) := by decide +kernel
theorem dL_cars_288 : decode cL_cars 288 = .ok (.ireturn, 1) := by decide +kernel
theorem dL_cars_289 : decode cL_cars 289 = .ok (.aload_n 1, 1) := by decide +kernel
theorem dL_cars_290 : decode cL_cars 290 = .ok (.iconst 1, 1) := by decide +kernel
theorem dL_cars_291 : decode cL_cars 291 = .ok (.iaload, 1) := by decide +kernel
theorem dL_cars_292 : decode cL_cars 292 = .ok (.ifCond .ne 37, 3) := by decide +kernel
theorem dL_cars_295 : decode cL_cars 295 = .ok (.aload_n 0, 1) := by decide +kernel
theorem dL_cars_296 : decode cL_cars 296 = .ok (.iconst 0, 1) := by decide +kernel
theorem dL_cars_297 : decode cL_cars 297 = .ok (.iconst 1, 1) := by decide +kernel
theorem dL_cars_298 : decode cL_cars 298 = .ok (.invokevirtual 78, 3) := by decide +kernel
theorem dL_cars_301 : decode cL_cars 301 = .ok (.iconst (-1), 1) := by decide +kernel
theorem dL_cars_302 : decode cL_cars 302 = .ok (.if_icmp .ne 25, 3) := by decide +kernel
theorem dL_cars_305 : decode cL_cars 305 = .ok (.aload_n 0, 1) := by decide +kernel
theorem dL_cars_306 : decode cL_cars 306 = .ok (.iconst 0, 1) := by decide +kernel
theorem dL_cars_307 : decode cL_cars 307 = .ok (.invokevirtual 81, 3) := by decide +kernel
theorem dL_cars_310 : decode cL_cars 310 = .ok (.iconst (-1), 1) := by decide +kernel
theorem dL_cars_311 : decode cL_cars 311 = .ok (.if_icmp .ne 16, 3) := by decide +kernel
theorem dL_cars_314 : decode cL_cars 314 = .ok (.aload_n 0, 1) := by decide +kernel
theorem dL_cars_315 : decode cL_cars 315 = .ok (.iconst 0, 1) := by decide +kernel
theorem dL_cars_316 : decode cL_cars 316 = .ok (.invokevirtual 85, 3) := by decide +kernel
theorem dL_cars_319 : decode cL_cars 319 = .ok (.iconst (-1), 1) := by decide +kernel
theorem dL_cars_320 : decode cL_cars 320 = .ok (.if_icmp .ne 7, 3) := by decide +kernel
theorem dL_cars_323 : decode cL_cars 323 = .ok (.iconst 1, 1) := by decide +kernel
theorem dL_cars_324 : decode cL_cars 324 = .ok (.goto 4, 3) := by decide +kernel
theorem dL_cars_327 : decode cL_cars 327 = .ok (.iconst 0, 1) := by decide +kernel
theorem dL_cars_328 : decode cL_cars 328 = .ok (.ireturn, 1) := by decide +kernel
theorem dL_cars_329 : decode cL_cars 329 = .ok (.iload 6, 2) := by decide +kernel
theorem dL_cars_331 : decode cL_cars 331 = .ok (.aload_n 1, 1) := by decide +kernel
theorem dL_cars_332 : decode cL_cars 332 = .ok (.iconst 1, 1) := by decide +kernel
theorem dL_cars_333 : decode cL_cars 333 = .ok (.iaload, 1) := by decide +kernel
theorem dL_cars_334 : decode cL_cars 334 = .ok (.irem, 1) := by decide +kernel
theorem dL_cars_335 : decode cL_cars 335 = .ok (.istore 8, 2) := by decide +kernel
theorem dL_cars_337 : decode cL_cars 337 = .ok (.bipush 6, 2) := by decide +kernel
theorem dL_cars_339 : decode cL_cars 339 = .ok (.iload 8, 2) := by decide +kernel
theorem dL_cars_341 : decode cL_cars 341 = .ok (.imul, 1) := by decide +kernel
theorem dL_cars_342 : decode cL_cars 342 = .ok (.iconst 4, 1) := by decide +kernel
theorem dL_cars_343 : decode cL_cars 343 = .ok (.iadd, 1) := by decide +kernel
theorem dL_cars_344 : decode cL_cars 344 = .ok (.istore 9, 2) := by decide +kernel
theorem dL_cars_346 : decode cL_cars 346 = .ok (.iload 7, 2) := by decide +kernel
theorem dL_cars_348 : decode cL_cars 348 = .ok (.iconst 4, 1) := by decide +kernel
theorem dL_cars_349 : decode cL_cars 349 = .ok (.if_icmp .ge 89, 3) := by decide +kernel
theorem dL_cars_352 : decode cL_cars 352 = .ok (.iload 6, 2) := by decide +kernel
theorem dL_cars_354 : decode cL_cars 354 = .ok (.iconst 5, 1) := by decide +kernel
theorem dL_cars_355 : decode cL_cars 355 = .ok (.idiv, 1) := by decide +kernel
theorem dL_cars_356 : decode cL_cars 356 = .ok (.iconst 2, 1) := by decide +kernel
theorem dL_cars_357 : decode cL_cars 357 = .ok (.irem, 1) := by decide +kernel
theorem dL_cars_358 : decode cL_cars 358 = .ok (.istore 10, 2) := by decide +kernel
theorem dL_cars_360 : decode cL_cars 360 = .ok (.aload_n 3, 1) := by decide +kernel
theorem dL_cars_361 : decode cL_cars 361 = .ok (.iload 9, 2) := by decide +kernel
theorem dL_cars_363 : decode cL_cars 363 = .ok (.iaload, 1) := by decide +kernel
theorem dL_cars_364 : decode cL_cars 364 = .ok (.iconst 2, 1) := by decide +kernel
theorem dL_cars_365 : decode cL_cars 365 = .ok (.if_icmp .eq 12, 3) := by decide +kernel
theorem dL_cars_368 : decode cL_cars 368 = .ok (.aload_n 3, 1) := by decide +kernel
theorem dL_cars_369 : decode cL_cars 369 = .ok (.iload 9, 2) := by decide +kernel
theorem dL_cars_371 : decode cL_cars 371 = .ok (.iaload, 1) := by decide +kernel
theorem dL_cars_372 : decode cL_cars 372 = .ok (.iload 10, 2) := by decide +kernel
theorem dL_cars_374 : decode cL_cars 374 = .ok (.if_icmp .ne 22, 3) := by decide +kernel
theorem dL_cars_377 : decode cL_cars 377 = .ok (.aload_n 0, 1) := by decide +kernel
theorem dL_cars_378 : decode cL_cars 378 = .ok (.iload 8, 2) := by decide +kernel
theorem dL_cars_380 : decode cL_cars 380 = .ok (.iload 10, 2) := by decide +kernel
theorem dL_cars_382 : decode cL_cars 382 = .ok (.invokevirtual 78, 3) := by decide +kernel
theorem dL_cars_385 : decode cL_cars 385 = .ok (.bipush (-2), 2) := by decide +kernel
theorem dL_cars_387 : decode cL_cars 387 = .ok (.if_icmp .ne 7, 3) := by decide +kernel
theorem dL_cars_390 : decode cL_cars 390 = .ok (.iconst 1, 1) := by decide +kernel
theorem dL_cars_391 : decode cL_cars 391 = .ok (.goto 4, 3) := by decide +kernel
theorem dL_cars_394 : decode cL_cars 394 = .ok (.iconst 0, 1) := by decide +kernel
theorem dL_cars_395 : decode cL_cars 395 = .ok (.ireturn, 1) := by decide +kernel
theorem dL_cars_396 : decode cL_cars 396 = .ok (.aload_n 3, 1) := by decide +kernel
theorem dL_cars_397 : decode cL_cars 397 = .ok (.iload 9, 2) := by decide +kernel
theorem dL_cars_399 : decode cL_cars 399 = .ok (.iload 10, 2) := by decide +kernel
theorem dL_cars_401 : decode cL_cars 401 = .ok (.iastore, 1) := by decide +kernel
theorem dL_cars_402 : decode cL_cars 402 = .ok (.aload_n 0, 1) := by decide +kernel
theorem dL_cars_403 : decode cL_cars 403 = .ok (.iload 8, 2) := by decide +kernel
theorem dL_cars_405 : decode cL_cars 405 = .ok (.iload 10, 2) := by decide +kernel
theorem dL_cars_407 : decode cL_cars 407 = .ok (.invokevirtual 78, 3) := by decide +kernel
theorem dL_cars_410 : decode cL_cars 410 = .ok (.aload_n 1, 1) := by decide +kernel
theorem dL_cars_411 : decode cL_cars 411 = .ok (.aload 4, 2) := by decide +kernel
theorem dL_cars_413 : decode cL_cars 413 = .ok (.iload 8, 2) := by decide +kernel
theorem dL_cars_415 : decode cL_cars 415 = .ok (.iconst 1, 1) := by decide +kernel
theorem dL_cars_416 : decode cL_cars 416 = .ok (.invokestatic 38, 3) := by decide +kernel
theorem dL_cars_419 : decode cL_cars 419 = .ok (.aload_n 1, 1) := by decide +kernel
theorem dL_cars_420 : decode cL_cars 420 = .ok (.aload 4, 2) := by decide +kernel
theorem dL_cars_422 : decode cL_cars 422 = .ok (.iload 8, 2) := by decide +kernel
theorem dL_cars_424 : decode cL_cars 424 = .ok (.iconst 2, 1) := by decide +kernel
theorem dL_cars_425 : decode cL_cars 425 = .ok (.invokestatic 38, 3) := by decide +kernel
theorem dL_cars_428 : decode cL_cars 428 = .ok (.iadd, 1) := by decide +kernel
theorem dL_cars_429 : decode cL_cars 429 = .ok (.if_icmp .ne 7, 3) := by decide +kernel
theorem dL_cars_432 : decode cL_cars 432 = .ok (.iconst 1, 1) := by decide +kernel
theorem dL_cars_433 : decode cL_cars 433 = .ok (.goto 4, 3) := by decide +kernel
theorem dL_cars_436 : decode cL_cars 436 = .ok (.iconst 0, 1) := by decide +kernel
theorem dL_cars_437 : decode cL_cars 437 = .ok (.ireturn, 1) := by decide +kernel
theorem dL_cars_438 : decode cL_cars 438 = .ok (.iload 6, 2) := by decide +kernel
theorem dL_cars_440 : decode cL_cars 440 = .ok (.iconst 5, 1) := by decide +kernel
theorem dL_cars_441 : decode cL_cars 441 = .ok (.idiv, 1) := by decide +kernel
theorem dL_cars_442 : decode cL_cars 442 = .ok (.iconst 3, 1) := by decide +kernel
theorem dL_cars_443 : decode cL_cars 443 = .ok (.irem, 1) := by decide +kernel
theorem dL_cars_444 : decode cL_cars 444 = .ok (.ifCond .ne 62, 3) := by decide +kernel
theorem dL_cars_447 : decode cL_cars 447 = .ok (.aload_n 3, 1) := by decide +kernel
theorem dL_cars_448 : decode cL_cars 448 = .ok (.iload 9, 2) := by decide +kernel
theorem dL_cars_450 : decode cL_cars 450 = .ok (.iaload, 1) := by decide +kernel
theorem dL_cars_451 : decode cL_cars 451 = .ok (.iconst 2, 1) := by decide +kernel
theorem dL_cars_452 : decode cL_cars 452 = .ok (.if_icmp .ne 20, 3) := by decide +kernel
theorem dL_cars_455 : decode cL_cars 455 = .ok (.aload_n 0, 1) := by decide +kernel
theorem dL_cars_456 : decode cL_cars 456 = .ok (.iload 8, 2) := by decide +kernel
theorem dL_cars_458 : decode cL_cars 458 = .ok (.invokevirtual 81, 3) := by decide +kernel
theorem dL_cars_461 : decode cL_cars 461 = .ok (.bipush (-2), 2) := by decide +kernel
theorem dL_cars_463 : decode cL_cars 463 = .ok (.if_icmp .ne 7, 3) := by decide +kernel
theorem dL_cars_466 : decode cL_cars 466 = .ok (.iconst 1, 1) := by decide +kernel
theorem dL_cars_467 : decode cL_cars 467 = .ok (.goto 4, 3) := by decide +kernel
theorem dL_cars_470 : decode cL_cars 470 = .ok (.iconst 0, 1) := by decide +kernel
theorem dL_cars_471 : decode cL_cars 471 = .ok (.ireturn, 1) := by decide +kernel
theorem dL_cars_472 : decode cL_cars 472 = .ok (.aload_n 1, 1) := by decide +kernel
theorem dL_cars_473 : decode cL_cars 473 = .ok (.aload_n 3, 1) := by decide +kernel
theorem dL_cars_474 : decode cL_cars 474 = .ok (.aload 4, 2) := by decide +kernel
theorem dL_cars_476 : decode cL_cars 476 = .ok (.aload 5, 2) := by decide +kernel
theorem dL_cars_478 : decode cL_cars 478 = .ok (.iload 8, 2) := by decide +kernel
theorem dL_cars_480 : decode cL_cars 480 = .ok (.invokestatic 88, 3) := by decide +kernel
theorem dL_cars_483 : decode cL_cars 483 = .ok (.aload_n 0, 1) := by decide +kernel
theorem dL_cars_484 : decode cL_cars 484 = .ok (.iload 8, 2) := by decide +kernel
theorem dL_cars_486 : decode cL_cars 486 = .ok (.invokevirtual 81, 3) := by decide +kernel
theorem dL_cars_489 : decode cL_cars 489 = .ok (.aload_n 1, 1) := by decide +kernel
theorem dL_cars_490 : decode cL_cars 490 = .ok (.aload 4, 2) := by decide +kernel
theorem dL_cars_492 : decode cL_cars 492 = .ok (.iconst (-1), 1) := by decide +kernel
theorem dL_cars_493 : decode cL_cars 493 = .ok (.iconst 0, 1) := by decide +kernel
theorem dL_cars_494 : decode cL_cars 494 = .ok (.invokestatic 38, 3) := by decide +kernel
theorem dL_cars_497 : decode cL_cars 497 = .ok (.if_icmp .ne 7, 3) := by decide +kernel
theorem dL_cars_500 : decode cL_cars 500 = .ok (.iconst 1, 1) := by decide +kernel
theorem dL_cars_501 : decode cL_cars 501 = .ok (.goto 4, 3) := by decide +kernel
theorem dL_cars_504 : decode cL_cars 504 = .ok (.iconst 0, 1) := by decide +kernel
theorem dL_cars_505 : decode cL_cars 505 = .ok (.ireturn, 1) := by decide +kernel
theorem dL_cars_506 : decode cL_cars 506 = .ok (.aload_n 3, 1) := by decide +kernel
theorem dL_cars_507 : decode cL_cars 507 = .ok (.iload 9, 2) := by decide +kernel
theorem dL_cars_509 : decode cL_cars 509 = .ok (.iaload, 1) := by decide +kernel
theorem dL_cars_510 : decode cL_cars 510 = .ok (.iconst 2, 1) := by decide +kernel
theorem dL_cars_511 : decode cL_cars 511 = .ok (.if_icmp .eq 20, 3) := by decide +kernel
theorem dL_cars_514 : decode cL_cars 514 = .ok (.aload_n 0, 1) := by decide +kernel
theorem dL_cars_515 : decode cL_cars 515 = .ok (.iload 8, 2) := by decide +kernel
theorem dL_cars_517 : decode cL_cars 517 = .ok (.invokevirtual 85, 3) := by decide +kernel
theorem dL_cars_520 : decode cL_cars 520 = .ok (.bipush (-2), 2) := by decide +kernel
theorem dL_cars_522 : decode cL_cars 522 = .ok (.if_icmp .ne 7, 3) := by decide +kernel
theorem dL_cars_525 : decode cL_cars 525 = .ok (.iconst 1, 1) := by decide +kernel
theorem dL_cars_526 : decode cL_cars 526 = .ok (.goto 4, 3) := by decide +kernel
theorem dL_cars_529 : decode cL_cars 529 = .ok (.iconst 0, 1) := by decide +kernel
theorem dL_cars_530 : decode cL_cars 530 = .ok (.ireturn, 1) := by decide +kernel
theorem dL_cars_531 : decode cL_cars 531 = .ok (.aload_n 3, 1) := by decide +kernel
theorem dL_cars_532 : decode cL_cars 532 = .ok (.iload 9, 2) := by decide +kernel
theorem dL_cars_534 : decode cL_cars 534 = .ok (.iconst 0, 1) := by decide +kernel
theorem dL_cars_535 : decode cL_cars 535 = .ok (.iastore, 1) := by decide +kernel
theorem dL_cars_536 : decode cL_cars 536 = .ok (.aload_n 0, 1) := by decide +kernel
theorem dL_cars_537 : decode cL_cars 537 = .ok (.iload 8, 2) := by decide +kernel
theorem dL_cars_539 : decode cL_cars 539 = .ok (.invokevirtual 85, 3) := by decide +kernel
theorem dL_cars_542 : decode cL_cars 542 = .ok (.aload_n 3, 1) := by decide +kernel
theorem dL_cars_543 : decode cL_cars 543 = .ok (.iload 9, 2) := by decide +kernel
theorem dL_cars_545 : decode cL_cars 545 = .ok (.iconst 1, 1) := by decide +kernel
theorem dL_cars_546 : decode cL_cars 546 = .ok (.isub, 1) := by decide +kernel
theorem dL_cars_547 : decode cL_cars 547 = .ok (.iaload, 1) := by decide +kernel
theorem dL_cars_548 : decode cL_cars 548 = .ok (.if_icmp .ne 7, 3) := by decide +kernel
theorem dL_cars_551 : decode cL_cars 551 = .ok (.iconst 1, 1) := by decide +kernel
theorem dL_cars_552 : decode cL_cars 552 = .ok (.goto 4, 3) := by decide +kernel
theorem dL_cars_555 : decode cL_cars 555 = .ok (.iconst 0, 1) := by decide +kernel
theorem dL_cars_556 : decode cL_cars 556 = .ok (.ireturn, 1) := by decide +kernel
set_option maxRecDepth 20000 in
theorem ggL_acts_L_low : GoodIn wsL_acts wsL_low := goodIn_r _ [5, 6] (by decide +kernel) (by decide +kernel)
set_option maxRecDepth 20000 in
theorem gL_acts_L_low : GoodIn wsL_acts (va_wsS RL 92 yL_low wsL_low) := goodIn_app (goodIn_of _ (by decide +kernel)) ggL_acts_L_low
set_option maxRecDepth 100000 in
theorem ggL_acts_L_cars : GoodIn wsL_acts wsL_cars := goodIn_app (a := [.code yL_cars cL_cars 12 (some .boolean)]) (goodIn_r [.code yL_cars cL_cars 12 (some .boolean)] [9] rfl (by decide +kernel)) (goodIn_app (goodIn_app (goodIn_app (goodIn_app (goodIn_app (goodIn_app (goodIn_r wsL_cars_r1 [10, 11, 12, 13, 14, 15, 16, 17, 18, 19, 20, 21, 22, 23, 24, 25, 26, 27, 28, 29, 30, 31, 32, 33] rfl (by decide +kernel)) (goodIn_app (goodIn_r wsL_cars_r2 [34, 35, 36, 37, 38, 39, 40, 41, 42, 43, 44, 45, 46, 47, 48, 49, 50, 51, 52, 53, 54, 55, 56, 57] rfl (by decide +kernel)) (goodIn_app (goodIn_r wsL_cars_r3 [58, 59, 60, 61, 62, 63, 64, 65, 66, 67, 68, 69, 70, 71, 72, 73, 74, 75, 76, 77, 78, 79, 80, 81] rfl (by decide +kernel)) (goodIn_app (goodIn_r wsL_cars_r4 [82, 83, 84, 85, 86, 87, 88, 89, 90, 91, 92, 93, 94, 95, 96, 97, 98, 99, 100, 101, 102, 103, 104, 105] rfl (by decide +kernel)) (goodIn_app (goodIn_r wsL_cars_r5 [106, 107, 108, 109, 110, 111, 112, 113, 114, 115, 116, 117, 118, 119, 120, 121, 122, 123, 124, 125, 126, 127, 128, 129] rfl (by decide +kernel)) (goodIn_app (goodIn_r wsL_cars_r6 [130, 131, 132, 133, 134, 135, 136, 137, 138, 139, 4, 140, 141, 142, 143, 144, 145, 146, 147, 148, 149, 150, 151, 152] rfl (by decide +kernel)) (goodIn_r wsL_cars_r7 [153, 154, 155, 156, 157, 158] rfl (by decide +kernel)))))))) (goodIn_r wsX40 [288, 289, 290] rfl (by decide +kernel))) (goodIn_r wsX30 [291, 292, 293, 294] rfl (by decide +kernel))) (goodIn_r wsX10 [295, 296, 297, 298, 299, 300, 301, 302] rfl (by decide +kernel))) (goodIn_r wsX20 [303, 304, 305] rfl (by decide +kernel))) (goodIn_r wsX00 [306, 307, 308, 309, 310, 311, 312, 313, 314] rfl (by decide +kernel)))
set_option maxRecDepth 20000 in
theorem gL_acts_L_cars : GoodIn wsL_acts (va_wsS RL 95 yL_cars wsL_cars) := goodIn_app (goodIn_of _ (by decide +kernel)) ggL_acts_L_cars
set_option maxRecDepth 100000 in
theorem ggL_acts_X4_call : GoodIn wsL_acts wsX4_call := goodIn_app (a := [.code yX4_call cX4_call 5 (some .int)]) (goodIn_r [.code yX4_call cX4_call 5 (some .int)] [162] rfl (by decide +kernel)) (goodIn_app (goodIn_app (goodIn_app (goodIn_app (goodIn_app (goodIn_app (goodIn_r wsX4_call_r1 [15, 94, 163, 18, 164, 165, 166, 13, 167, 19, 20, 21, 22, 23, 24, 25, 26, 27, 28, 29, 30, 31, 32, 33] rfl (by decide +kernel)) (goodIn_app (goodIn_r wsX4_call_r2 [34, 35, 36, 37, 38, 39, 40, 41, 42, 43, 44, 45, 46, 47, 48, 49, 50, 51, 52, 53, 54, 55, 56, 57] rfl (by decide +kernel)) (goodIn_app (goodIn_r wsX4_call_r3 [58, 59, 60, 61, 62, 63, 64, 65, 66, 67, 68, 69, 70, 71, 72, 73, 74, 75, 76, 77, 78, 79, 168, 169] rfl (by decide +kernel)) (goodIn_app (goodIn_r wsX4_call_r4 [170, 171, 172, 173, 174, 175, 176, 115, 177, 178, 179, 180, 181, 182, 183, 184, 185, 186, 187, 188, 189, 190, 191, 192] rfl (by decide +kernel)) (goodIn_app (goodIn_r wsX4_call_r5 [116, 193, 194, 195, 196, 197, 198, 199, 125, 126, 127, 128, 121, 122, 123, 124, 200, 201, 202, 203, 204, 205, 206, 207] rfl (by decide +kernel)) (goodIn_r wsX4_call_r6 [100, 101, 102, 103, 104, 105, 106, 208, 209, 210, 211, 212, 213, 214, 215, 216, 217, 218, 219] rfl (by decide +kernel))))))) (goodIn_r wsX40 [288, 289, 290] rfl (by decide +kernel))) (goodIn_r wsX30 [291, 292, 293, 294] rfl (by decide +kernel))) (goodIn_r wsX00 [306, 307, 308, 309, 310, 311, 312, 313, 314] rfl (by decide +kernel))) (goodIn_r wsX20 [303, 304, 305] rfl (by decide +kernel))) (goodIn_r wsX10 [295, 296, 297, 298, 299, 300, 301, 302] rfl (by decide +kernel)))
set_option maxRecDepth 20000 in
theorem gL_acts_X4_call : GoodIn wsL_acts (wsV RL 99 RX4 yX4_call wsX4_call) := goodIn_app (goodIn_of _ (by decide +kernel)) ggL_acts_X4_call
set_option maxRecDepth 20000 in
theorem ggL_acts_L_gives : GoodIn wsL_acts wsL_gives := goodIn_r _ [222, 152, 223, 224, 225, 4, 226, 158, 155, 156, 157, 227, 228, 229, 230, 231, 232, 233, 234, 235, 236, 237, 238, 145, 146, 147, 148, 141, 142, 143, 144, 138, 139, 140] (by decide +kernel) (by decide +kernel)
set_option maxRecDepth 20000 in
theorem gL_acts_L_gives : GoodIn wsL_acts (va_wsS RL 57 yL_gives wsL_gives) := goodIn_app (goodIn_of _ (by decide +kernel)) ggL_acts_L_gives
set_option maxRecDepth 100000 in
theorem ggL_acts_L_tick : GoodIn wsL_acts wsL_tick := goodIn_app (a := [.code yL_tick cL_tick 6 none]) (goodIn_r [.code yL_tick cL_tick 6 none] [241] rfl (by decide +kernel)) (goodIn_app (goodIn_r wsL_tick_r1 [141, 142, 4, 143, 144, 220, 221, 222, 152, 223, 224, 225, 226, 158, 155, 156, 157, 227, 228, 229, 230, 231, 232, 233] rfl (by decide +kernel)) (goodIn_r wsL_tick_r2 [234, 235, 236, 237, 238, 145, 146, 147, 148, 138, 139, 140, 242, 243, 244, 245, 246, 247] rfl (by decide +kernel)))
set_option maxRecDepth 20000 in
theorem gL_acts_L_tick : GoodIn wsL_acts (va_wsS RL 102 yL_tick wsL_tick) := goodIn_app (goodIn_of _ (by decide +kernel)) ggL_acts_L_tick
set_option maxRecDepth 100000 in
theorem ggL_acts_X4_pass : GoodIn wsL_acts wsX4_pass := goodIn_app (a := [.code yX4_pass cX4_pass 3 (some .int)]) (goodIn_r [.code yX4_pass cX4_pass 3 (some .int)] [251] rfl (by decide +kernel)) (goodIn_app (goodIn_app (goodIn_app (goodIn_app (goodIn_app (goodIn_app (goodIn_r wsX4_pass_r1 [15, 164, 18, 94, 22, 23, 24, 25, 26, 27, 28, 29, 30, 31, 32, 33, 34, 35, 36, 37, 38, 39, 40, 41] rfl (by decide +kernel)) (goodIn_app (goodIn_r wsX4_pass_r2 [42, 43, 44, 45, 46, 47, 48, 49, 50, 51, 52, 53, 54, 55, 56, 57, 58, 59, 60, 61, 62, 63, 64, 65] rfl (by decide +kernel)) (goodIn_app (goodIn_r wsX4_pass_r3 [66, 67, 68, 69, 70, 71, 72, 73, 74, 75, 76, 77, 78, 79, 252, 253, 254, 255, 256, 257, 258, 259, 172, 115] rfl (by decide +kernel)) (goodIn_app (goodIn_r wsX4_pass_r4 [260, 169, 170, 171, 173, 174, 175, 176, 177, 178, 179, 180, 181, 182, 183, 184, 185, 186, 187, 188, 189, 190, 191, 192] rfl (by decide +kernel)) (goodIn_app (goodIn_r wsX4_pass_r5 [116, 193, 194, 195, 196, 197, 198, 199, 125, 126, 127, 128, 121, 122, 123, 124, 200, 201, 202, 203, 204, 205, 206, 207] rfl (by decide +kernel)) (goodIn_app (goodIn_r wsX4_pass_r6 [100, 101, 102, 103, 104, 105, 106, 261, 213, 214, 215, 216, 217, 218, 219, 262, 263, 264, 265, 266, 267, 268, 269, 270] rfl (by decide +kernel)) (goodIn_r wsX4_pass_r7 [271, 272, 273, 274, 275, 276, 277, 278, 279, 280, 281, 282, 283, 284, 285, 286, 287, 129, 130, 131, 132] rfl (by decide +kernel)))))))) (goodIn_r wsX40 [288, 289, 290] rfl (by decide +kernel))) (goodIn_r wsX30 [291, 292, 293, 294] rfl (by decide +kernel))) (goodIn_r wsX20 [303, 304, 305] rfl (by decide +kernel))) (goodIn_r wsX10 [295, 296, 297, 298, 299, 300, 301, 302] rfl (by decide +kernel))) (goodIn_r wsX00 [306, 307, 308, 309, 310, 311, 312, 313, 314] rfl (by decide +kernel)))
set_option maxRecDepth 20000 in
theorem gL_acts_X4_pass : GoodIn wsL_acts (wsV RL 106 RX4 yX4_pass wsX4_pass) := goodIn_app (goodIn_of _ (by decide +kernel)) ggL_acts_X4_pass
set_option maxRecDepth 20000 in
theorem ggL_acts_L_those : GoodIn wsL_acts wsL_those := goodIn_r _ [140, 141, 142, 4, 143, 144, 145, 146, 147, 148] (by decide +kernel) (by decide +kernel)
set_option maxRecDepth 20000 in
theorem gL_acts_L_those : GoodIn wsL_acts (va_wsS RL 38 yL_those wsL_those) := goodIn_app (goodIn_of _ (by decide +kernel)) ggL_acts_L_those
theorem dL_acts_0 : decode cL_acts 0 = .ok (.iload 6, 2) := by decide +kernel
theorem dL_acts_2 : decode cL_acts 2 = .ok (.iconst 5, 1) := by decide +kernel
theorem dL_acts_3 : decode cL_acts 3 = .ok (.ishr, 1) := by decide +kernel
theorem dL_acts_4 : decode cL_acts 4 = .ok (.ldc 91, 2) := by decide +kernel
theorem dL_acts_6 : decode cL_acts 6 = .ok (.invokestatic 92, 3) := by decide +kernel
theorem dL_acts_9 : decode cL_acts 9 = .ok (.istore 7, 2) := by decide +kernel
theorem dL_acts_11 : decode cL_acts 11 = .ok (.iload 6, 2) := by decide +kernel
theorem dL_acts_13 : decode cL_acts 13 = .ok (.bipush 24, 2) := by decide +kernel
theorem dL_acts_15 : decode cL_acts 15 = .ok (.invokestatic 92, 3) := by decide +kernel
theorem dL_acts_18 : decode cL_acts 18 = .ok (.istore 8, 2) := by decide +kernel
theorem dL_acts_20 : decode cL_acts 20 = .ok (.iload 8, 2) := by decide +kernel
theorem dL_acts_22 : decode cL_acts 22 = .ok (.bipush 6, 2) := by decide +kernel
theorem dL_acts_24 : decode cL_acts 24 = .ok (.if_icmp .ge 19, 3) := by decide +kernel
theorem dL_acts_27 : decode cL_acts 27 = .ok (.aload_n 0, 1) := by decide +kernel
theorem dL_acts_28 : decode cL_acts 28 = .ok (.aload_n 1, 1) := by decide +kernel
theorem dL_acts_29 : decode cL_acts 29 = .ok (.aload_n 2, 1) := by decide +kernel
theorem dL_acts_30 : decode cL_acts 30 = .ok (.aload_n 3, 1) := by decide +kernel
theorem dL_acts_31 : decode cL_acts 31 = .ok (.aload 4, 2) := by decide +kernel
theorem dL_acts_33 : decode cL_acts 33 = .ok (.aload 5, 2) := by decide +kernel
theorem dL_acts_35 : decode cL_acts 35 = .ok (.iload 7, 2) := by decide +kernel
theorem dL_acts_37 : decode cL_acts 37 = .ok (.iload 8, 2) := by decide +kernel
theorem dL_acts_39 : decode cL_acts 39 = .ok (.invokestatic 95, 3) := by decide +kernel
theorem dL_acts_42 : decode cL_acts 42 = .ok (.ireturn, 1) := by decide +kernel
theorem dL_acts_43 : decode cL_acts 43 = .ok (.iload 8, 2) := by decide +kernel
theorem dL_acts_45 : decode cL_acts 45 = .ok (.bipush 15, 2) := by decide +kernel
theorem dL_acts_47 : decode cL_acts 47 = .ok (.if_icmp .ge 143, 3) := by decide +kernel
theorem dL_acts_50 : decode cL_acts 50 = .ok (.iload 7, 2) := by decide +kernel
theorem dL_acts_52 : decode cL_acts 52 = .ok (.bipush 16, 2) := by decide +kernel
theorem dL_acts_54 : decode cL_acts 54 = .ok (.irem, 1) := by decide +kernel
theorem dL_acts_55 : decode cL_acts 55 = .ok (.istore 9, 2) := by decide +kernel
theorem dL_acts_57 : decode cL_acts 57 = .ok (.iload 7, 2) := by decide +kernel
theorem dL_acts_59 : decode cL_acts 59 = .ok (.bipush 16, 2) := by decide +kernel
theorem dL_acts_61 : decode cL_acts 61 = .ok (.idiv, 1) := by decide +kernel
theorem dL_acts_62 : decode cL_acts 62 = .ok (.bipush 16, 2) := by decide +kernel
theorem dL_acts_64 : decode cL_acts 64 = .ok (.irem, 1) := by decide +kernel
theorem dL_acts_65 : decode cL_acts 65 = .ok (.istore 10, 2) := by decide +kernel
theorem dL_acts_67 : decode cL_acts 67 = .ok (.iload 9, 2) := by decide +kernel
theorem dL_acts_69 : decode cL_acts 69 = .ok (.iload 10, 2) := by decide +kernel
theorem dL_acts_71 : decode cL_acts 71 = .ok (.if_icmp .ne 21, 3) := by decide +kernel
theorem dL_acts_74 : decode cL_acts 74 = .ok (.aload_n 0, 1) := by decide +kernel
theorem dL_acts_75 : decode cL_acts 75 = .ok (.iload 9, 2) := by decide +kernel
theorem dL_acts_77 : decode cL_acts 77 = .ok (.iload 10, 2) := by decide +kernel
theorem dL_acts_79 : decode cL_acts 79 = .ok (.invokevirtual 99, 3) := by decide +kernel
theorem dL_acts_82 : decode cL_acts 82 = .ok (.iconst (-1), 1) := by decide +kernel
theorem dL_acts_83 : decode cL_acts 83 = .ok (.if_icmp .ne 7, 3) := by decide +kernel
theorem dL_acts_86 : decode cL_acts 86 = .ok (.iconst 1, 1) := by decide +kernel
theorem dL_acts_87 : decode cL_acts 87 = .ok (.goto 4, 3) := by decide +kernel
theorem dL_acts_90 : decode cL_acts 90 = .ok (.iconst 0, 1) := by decide +kernel
theorem dL_acts_91 : decode cL_acts 91 = .ok (.ireturn, 1) := by decide +kernel
theorem dL_acts_92 : decode cL_acts 92 = .ok (.aload_n 1, 1) := by decide +kernel
theorem dL_acts_93 : decode cL_acts 93 = .ok (.iconst 2, 1) := by decide +kernel
theorem dL_acts_94 : decode cL_acts 94 = .ok (.iaload, 1) := by decide +kernel
theorem dL_acts_95 : decode cL_acts 95 = .ok (.bipush 40, 2) := by decide +kernel
theorem dL_acts_97 : decode cL_acts 97 = .ok (.if_icmp .ne 22, 3) := by decide +kernel
theorem dL_acts_100 : decode cL_acts 100 = .ok (.aload_n 0, 1) := by decide +kernel
theorem dL_acts_101 : decode cL_acts 101 = .ok (.iload 9, 2) := by decide +kernel
theorem dL_acts_103 : decode cL_acts 103 = .ok (.iload 10, 2) := by decide +kernel
theorem dL_acts_105 : decode cL_acts 105 = .ok (.invokevirtual 99, 3) := by decide +kernel
theorem dL_acts_108 : decode cL_acts 108 = .ok (.bipush (-3), 2) := by decide +kernel
theorem dL_acts_110 : decode cL_acts 110 = .ok (.if_icmp .ne 7, 3) := by decide +kernel
theorem dL_acts_113 : decode cL_acts 113 = .ok (.iconst 1, 1) := by decide +kernel
theorem dL_acts_114 : decode cL_acts 114 = .ok (.goto 4, 3) := by decide +kernel
theorem dL_acts_117 : decode cL_acts 117 = .ok (.iconst 0, 1) := by decide +kernel
theorem dL_acts_118 : decode cL_acts 118 = .ok (.ireturn, 1) := by decide +kernel
theorem dL_acts_119 : decode cL_acts 119 = .ok (.aload 4, 2) := by decide +kernel
theorem dL_acts_121 : decode cL_acts 121 = .ok (.aload_n 1, 1) := by decide +kernel
theorem dL_acts_122 : decode cL_acts 122 = .ok (.iconst 2, 1) := by decide +kernel
theorem dL_acts_123 : decode cL_acts 123 = .ok (.iaload, 1) := by decide +kernel
theorem dL_acts_124 : decode cL_acts 124 = .ok (.iload 9, 2) := by decide +kernel
theorem dL_acts_126 : decode cL_acts 126 = .ok (.iload 10, 2) := by decide +kernel
theorem dL_acts_128 : decode cL_acts 128 = .ok (.iconst 4, 1) := by decide +kernel
theorem dL_acts_129 : decode cL_acts 129 = .ok (.ishl, 1) := by decide +kernel
theorem dL_acts_130 : decode cL_acts 130 = .ok (.ior, 1) := by decide +kernel
theorem dL_acts_131 : decode cL_acts 131 = .ok (.i2l, 1) := by decide +kernel
theorem dL_acts_132 : decode cL_acts 132 = .ok (.aload_n 1, 1) := by decide +kernel
theorem dL_acts_133 : decode cL_acts 133 = .ok (.iconst 0, 1) := by decide +kernel
theorem dL_acts_134 : decode cL_acts 134 = .ok (.iaload, 1) := by decide +kernel
theorem dL_acts_135 : decode cL_acts 135 = .ok (.i2l, 1) := by decide +kernel
theorem dL_acts_136 : decode cL_acts 136 = .ok (.bipush 24, 2) := by decide +kernel
theorem dL_acts_138 : decode cL_acts 138 = .ok (.lshl, 1) := by decide +kernel
theorem dL_acts_139 : decode cL_acts 139 = .ok (.lor, 1) := by decide +kernel
theorem dL_acts_140 : decode cL_acts 140 = .ok (.lastore, 1) := by decide +kernel
theorem dL_acts_141 : decode cL_acts 141 = .ok (.aload 5, 2) := by decide +kernel
theorem dL_acts_143 : decode cL_acts 143 = .ok (.aload_n 1, 1) := by decide +kernel
theorem dL_acts_144 : decode cL_acts 144 = .ok (.iconst 2, 1) := by decide +kernel
theorem dL_acts_145 : decode cL_acts 145 = .ok (.iaload, 1) := by decide +kernel
theorem dL_acts_146 : decode cL_acts 146 = .ok (.lconst 0, 1) := by decide +kernel
theorem dL_acts_147 : decode cL_acts 147 = .ok (.lastore, 1) := by decide +kernel
theorem dL_acts_148 : decode cL_acts 148 = .ok (.aload_n 1, 1) := by decide +kernel
theorem dL_acts_149 : decode cL_acts 149 = .ok (.iconst 2, 1) := by decide +kernel
theorem dL_acts_150 : decode cL_acts 150 = .ok (.dup2, 1) := by decide +kernel
theorem dL_acts_151 : decode cL_acts 151 = .ok (.iaload, 1) := by decide +kernel
theorem dL_acts_152 : decode cL_acts 152 = .ok (.iconst 1, 1) := by decide +kernel
theorem dL_acts_153 : decode cL_acts 153 = .ok (.iadd, 1) := by decide +kernel
theorem dL_acts_154 : decode cL_acts 154 = .ok (.iastore, 1) := by decide +kernel
theorem dL_acts_155 : decode cL_acts 155 = .ok (.aload_n 1, 1) := by decide +kernel
theorem dL_acts_156 : decode cL_acts 156 = .ok (.aload_n 2, 1) := by decide +kernel
theorem dL_acts_157 : decode cL_acts 157 = .ok (.aload_n 3, 1) := by decide +kernel
theorem dL_acts_158 : decode cL_acts 158 = .ok (.aload 4, 2) := by decide +kernel
theorem dL_acts_160 : decode cL_acts 160 = .ok (.aload_n 1, 1) := by decide +kernel
theorem dL_acts_161 : decode cL_acts 161 = .ok (.iconst 2, 1) := by decide +kernel
theorem dL_acts_162 : decode cL_acts 162 = .ok (.iaload, 1) := by decide +kernel
theorem dL_acts_163 : decode cL_acts 163 = .ok (.iconst 1, 1) := by decide +kernel
theorem dL_acts_164 : decode cL_acts 164 = .ok (.isub, 1) := by decide +kernel
theorem dL_acts_165 : decode cL_acts 165 = .ok (.invokestatic 57, 3) := by decide +kernel
theorem dL_acts_168 : decode cL_acts 168 = .ok (.aload_n 0, 1) := by decide +kernel
theorem dL_acts_169 : decode cL_acts 169 = .ok (.iload 9, 2) := by decide +kernel
theorem dL_acts_171 : decode cL_acts 171 = .ok (.iload 10, 2) := by decide +kernel
theorem dL_acts_173 : decode cL_acts 173 = .ok (.invokevirtual 99, 3) := by decide +kernel
theorem dL_acts_176 : decode cL_acts 176 = .ok (.aload_n 1, 1) := by decide +kernel
theorem dL_acts_177 : decode cL_acts 177 = .ok (.iconst 2, 1) := by decide +kernel
theorem dL_acts_178 : decode cL_acts 178 = .ok (.iaload, 1) := by decide +kernel
theorem dL_acts_179 : decode cL_acts 179 = .ok (.iconst 1, 1) := by decide +kernel
theorem dL_acts_180 : decode cL_acts 180 = .ok (.isub, 1) := by decide +kernel
theorem dL_acts_181 : decode cL_acts 181 = .ok (.if_icmp .ne 7, 3) := by decide +kernel
theorem dL_acts_184 : decode cL_acts 184 = .ok (.iconst 1, 1) := by decide +kernel
theorem dL_acts_185 : decode cL_acts 185 = .ok (.goto 4, 3) := by decide +kernel
theorem dL_acts_188 : decode cL_acts 188 = .ok (.iconst 0, 1) := by decide +kernel
theorem dL_acts_189 : decode cL_acts 189 = .ok (.ireturn, 1) := by decide +kernel
theorem dL_acts_190 : decode cL_acts 190 = .ok (.iconst 1, 1) := by decide +kernel
theorem dL_acts_191 : decode cL_acts 191 = .ok (.iload 7, 2) := by decide +kernel
theorem dL_acts_193 : decode cL_acts 193 = .ok (.iload 7, 2) := by decide +kernel
theorem dL_acts_195 : decode cL_acts 195 = .ok (.bipush 7, 2) := by decide +kernel
theorem dL_acts_197 : decode cL_acts 197 = .ok (.irem, 1) := by decide +kernel
theorem dL_acts_198 : decode cL_acts 198 = .ok (.ifCond .ne 8, 3) := by decide +kernel
theorem dL_acts_201 : decode cL_acts 201 = .ok (.bipush 100, 2) := by decide +kernel
theorem dL_acts_203 : decode cL_acts 203 = .ok (.goto 5, 3) := by decide +kernel
theorem dL_acts_206 : decode cL_acts 206 = .ok (.bipush 9, 2) := by decide +kernel
theorem dL_acts_208 : decode cL_acts 208 = .ok (.irem, 1) := by decide +kernel
theorem dL_acts_209 : decode cL_acts 209 = .ok (.iadd, 1) := by decide +kernel
theorem dL_acts_210 : decode cL_acts 210 = .ok (.istore 9, 2) := by decide +kernel
theorem dL_acts_212 : decode cL_acts 212 = .ok (.iconst 0, 1) := by decide +kernel
theorem dL_acts_213 : decode cL_acts 213 = .ok (.istore 10, 2) := by decide +kernel
theorem dL_acts_215 : decode cL_acts 215 = .ok (.iload 10, 2) := by decide +kernel
theorem dL_acts_217 : decode cL_acts 217 = .ok (.iload 9, 2) := by decide +kernel
theorem dL_acts_219 : decode cL_acts 219 = .ok (.if_icmp .ge 19, 3) := by decide +kernel
theorem dL_acts_222 : decode cL_acts 222 = .ok (.aload_n 1, 1) := by decide +kernel
theorem dL_acts_223 : decode cL_acts 223 = .ok (.aload_n 2, 1) := by decide +kernel
theorem dL_acts_224 : decode cL_acts 224 = .ok (.aload_n 3, 1) := by decide +kernel
theorem dL_acts_225 : decode cL_acts 225 = .ok (.aload 4, 2) := by decide +kernel
theorem dL_acts_227 : decode cL_acts 227 = .ok (.aload 5, 2) := by decide +kernel
theorem dL_acts_229 : decode cL_acts 229 = .ok (.invokestatic 102, 3) := by decide +kernel
theorem dL_acts_232 : decode cL_acts 232 = .ok (.iinc 10 1, 3) := by decide +kernel
theorem dL_acts_235 : decode cL_acts 235 = .ok (.goto (-20), 3) := by decide +kernel
theorem dL_acts_238 : decode cL_acts 238 = .ok (.aload_n 0, 1) := by decide +kernel
theorem dL_acts_239 : decode cL_acts 239 = .ok (.iload 9, 2) := by decide +kernel
theorem dL_acts_241 : decode cL_acts 241 = .ok (.invokevirtual 106, 3) := by decide +kernel
theorem dL_acts_244 : decode cL_acts 244 = .ok (.aload_n 1, 1) := by decide +kernel
theorem dL_acts_245 : decode cL_acts 245 = .ok (.aload 4, 2) := by decide +kernel
theorem dL_acts_247 : decode cL_acts 247 = .ok (.iconst (-1), 1) := by decide +kernel
theorem dL_acts_248 : decode cL_acts 248 = .ok (.iconst 3, 1) := by decide +kernel
theorem dL_acts_249 : decode cL_acts 249 = .ok (.invokestatic 38, 3) := by decide +kernel
theorem dL_acts_252 : decode cL_acts 252 = .ok (.if_icmp .ne 7, 3) := by decide +kernel
theorem dL_acts_255 : decode cL_acts 255 = .ok (.iconst 1, 1) := by decide +kernel
theorem dL_acts_256 : decode cL_acts 256 = .ok (.goto 4, 3) := by decide +kernel
theorem dL_acts_259 : decode cL_acts 259 = .ok (.iconst 0, 1) := by decide +kernel
theorem dL_acts_260 : decode cL_acts 260 = .ok (.ireturn, 1) := by decide +kernel
set_option maxRecDepth 100000 in
theorem ggL_isSo_X4_car : GoodIn wsL_isSo wsX4_car := goodIn_app (a := [.code yX4_car cX4_car 3 (some .int)]) (goodIn_r [.code yX4_car cX4_car 3 (some .int)] [7] rfl (by decide +kernel)) (goodIn_app (goodIn_app (goodIn_app (goodIn_app (goodIn_app (goodIn_r wsX4_car_r1 [8, 9, 10, 11, 12, 13, 14, 15, 16, 17, 18, 19, 20, 21, 22, 23, 24, 25, 26, 27, 28, 29, 30, 31] rfl (by decide +kernel)) (goodIn_app (goodIn_r wsX4_car_r2 [32, 33, 34, 35, 36, 37, 38, 39, 40, 41, 42, 43, 44, 45, 46, 47, 48, 49, 50, 51, 52, 53, 54, 55] rfl (by decide +kernel)) (goodIn_r wsX4_car_r3 [56, 57, 58, 59, 60, 61, 62, 63, 64, 65, 66, 67, 68, 69, 70] rfl (by decide +kernel)))) (goodIn_r wsX40 [165, 166, 167] rfl (by decide +kernel))) (goodIn_r wsX30 [168, 169, 170, 171] rfl (by decide +kernel))) (goodIn_r wsX10 [172, 173, 174, 175, 176, 177, 178, 179] rfl (by decide +kernel))) (goodIn_r wsX00 [180, 181, 182, 183, 184, 185, 186, 187, 188] rfl (by decide +kernel)))
set_option maxRecDepth 20000 in
theorem gL_isSo_X4_car : GoodIn wsL_isSo (wsV RL 109 RX4 yX4_car wsX4_car) := goodIn_app (goodIn_of _ (by decide +kernel)) ggL_isSo_X4_car
set_option maxRecDepth 20000 in
theorem ggL_isSo_L_those : GoodIn wsL_isSo wsL_those := goodIn_r _ [74, 75, 76, 73, 77, 78, 79, 80, 81, 82] (by decide +kernel) (by decide +kernel)
set_option maxRecDepth 20000 in
theorem gL_isSo_L_those : GoodIn wsL_isSo (va_wsS RL 38 yL_those wsL_those) := goodIn_app (goodIn_of _ (by decide +kernel)) ggL_isSo_L_those
set_option maxRecDepth 20000 in
theorem ggL_isSo_L_stops : GoodIn wsL_isSo wsL_stops := goodIn_r _ [85, 79, 80, 73, 81, 82, 75, 76, 77, 78, 86, 87, 88, 89, 90, 91, 92] (by decide +kernel) (by decide +kernel)
set_option maxRecDepth 20000 in
theorem gL_isSo_L_stops : GoodIn wsL_isSo (va_wsS RL 34 yL_stops wsL_stops) := goodIn_app (goodIn_of _ (by decide +kernel)) ggL_isSo_L_stops
set_option maxRecDepth 20000 in
theorem ggL_isSo_L_aim : GoodIn wsL_isSo wsL_aim := goodIn_r _ [95, 75, 76, 73, 77, 78, 79, 80, 81, 82, 86, 87, 88, 89, 90, 91, 92] (by decide +kernel) (by decide +kernel)
set_option maxRecDepth 20000 in
theorem gL_isSo_L_aim : GoodIn wsL_isSo (va_wsS RL 53 yL_aim wsL_aim) := goodIn_app (goodIn_of _ (by decide +kernel)) ggL_isSo_L_aim
set_option maxRecDepth 20000 in
theorem ggL_isSo_X4_caller : GoodIn wsL_isSo wsX4_caller := goodIn_r _ [99, 8, 12, 100, 101, 102, 103, 104, 105, 106, 107, 108, 109, 110, 23, 111, 25, 165, 166, 167, 168, 169, 170, 171, 180, 181, 182, 183, 184, 185, 186, 187, 188] (by decide +kernel) (by decide +kernel)
set_option maxRecDepth 20000 in
theorem gL_isSo_X4_caller : GoodIn wsL_isSo (wsV RL 114 RX4 yX4_caller wsX4_caller) := goodIn_app (goodIn_of _ (by decide +kernel)) ggL_isSo_X4_caller
set_option maxRecDepth 20000 in
theorem ggL_isSo_L_floor : GoodIn wsL_isSo wsL_floor := goodIn_r _ [92, 89] (by decide +kernel) (by decide +kernel)
set_option maxRecDepth 20000 in
theorem gL_isSo_L_floor : GoodIn wsL_isSo (va_wsS RL 27 yL_floor wsL_floor) := goodIn_app (goodIn_of _ (by decide +kernel)) ggL_isSo_L_floor
set_option maxRecDepth 20000 in
theorem ggL_isSo_L_goal : GoodIn wsL_isSo wsL_goal := goodIn_r _ [88, 89] (by decide +kernel) (by decide +kernel)
set_option maxRecDepth 20000 in
theorem gL_isSo_L_goal : GoodIn wsL_isSo (va_wsS RL 24 yL_goal wsL_goal) := goodIn_app (goodIn_of _ (by decide +kernel)) ggL_isSo_L_goal
set_option maxRecDepth 20000 in
theorem ggL_isSo_L_is : GoodIn wsL_isSo wsL_is := goodIn_r _ [77, 78] (by decide +kernel) (by decide +kernel)
set_option maxRecDepth 20000 in
theorem gL_isSo_L_is : GoodIn wsL_isSo (va_wsS RL 15 yL_is wsL_is) := goodIn_app (goodIn_of _ (by decide +kernel)) ggL_isSo_L_is
set_option maxRecDepth 20000 in
theorem ggL_isSo_L_by : GoodIn wsL_isSo wsL_by := goodIn_r _ [81, 82] (by decide +kernel) (by decide +kernel)
set_option maxRecDepth 20000 in
theorem gL_isSo_L_by : GoodIn wsL_isSo (va_wsS RL 21 yL_by wsL_by) := goodIn_app (goodIn_of _ (by decide +kernel)) ggL_isSo_L_by
set_option maxRecDepth 100000 in
theorem ggL_isSo_X4_group : GoodIn wsL_isSo wsX4_group := goodIn_app (a := [.code yX4_group cX4_group 4 (some .int)]) (goodIn_r [.code yX4_group cX4_group 4 (some .int)] [115] rfl (by decide +kernel)) (goodIn_app (goodIn_app (goodIn_app (goodIn_app (goodIn_r wsX4_group_r1 [8, 12, 100, 101, 116, 117, 118, 23, 119, 25, 120, 121, 122, 123, 124, 125, 126, 127, 32, 33, 128, 129, 130, 131] rfl (by decide +kernel)) (goodIn_r wsX4_group_r2 [26, 108, 109, 110, 111, 132, 133, 134, 135] rfl (by decide +kernel))) (goodIn_r wsX40 [165, 166, 167] rfl (by decide +kernel))) (goodIn_r wsX30 [168, 169, 170, 171] rfl (by decide +kernel))) (goodIn_r wsX00 [180, 181, 182, 183, 184, 185, 186, 187, 188] rfl (by decide +kernel)))
set_option maxRecDepth 20000 in
theorem gL_isSo_X4_group : GoodIn wsL_isSo (wsV RL 119 RX4 yX4_group wsX4_group) := goodIn_app (goodIn_of _ (by decide +kernel)) ggL_isSo_X4_group
set_option maxRecDepth 100000 in
theorem ggL_isSo_X4_count : GoodIn wsL_isSo wsX4_count := goodIn_app (a := [.code yX4_count cX4_count 2 (some .int)]) (goodIn_r [.code yX4_count cX4_count 2 (some .int)] [139] rfl (by decide +kernel)) (goodIn_app (goodIn_app (goodIn_app (goodIn_app (goodIn_app (goodIn_app (goodIn_r wsX4_count_r1 [8, 140, 9, 141, 12, 142, 143, 144, 145, 146, 67, 68, 63, 69, 70, 147, 148, 149, 23, 150, 25, 26, 151, 152] rfl (by decide +kernel)) (goodIn_app (goodIn_r wsX4_count_r2 [153, 154, 120, 121, 122, 123, 124, 125, 126, 127, 32, 33, 128, 129, 130, 131, 155, 156, 157, 17, 158, 19, 159, 160] rfl (by decide +kernel)) (goodIn_r wsX4_count_r3 [161, 162, 163, 164] rfl (by decide +kernel)))) (goodIn_r wsX40 [165, 166, 167] rfl (by decide +kernel))) (goodIn_r wsX30 [168, 169, 170, 171] rfl (by decide +kernel))) (goodIn_r wsX10 [172, 173, 174, 175, 176, 177, 178, 179] rfl (by decide +kernel))) (goodIn_r wsX00 [180, 181, 182, 183, 184, 185, 186, 187, 188] rfl (by decide +kernel))) (goodIn_r wsX20 [189, 190, 191] rfl (by decide +kernel)))
set_option maxRecDepth 20000 in
theorem gL_isSo_X4_count : GoodIn wsL_isSo (wsV RL 122 RX4 yX4_count wsX4_count) := goodIn_app (goodIn_of _ (by decide +kernel)) ggL_isSo_X4_count
theorem dL_isSo_0 : decode cL_isSo 0 = .ok (.iconst 1, 1) := by decide +kernel
theorem dL_isSo_1 : decode cL_isSo 1 = .ok (.istore 6, 2) := by decide +kernel
theorem dL_isSo_3 : decode cL_isSo 3 = .ok (.iconst 0, 1) := by decide +kernel
theorem dL_isSo_4 : decode cL_isSo 4 = .ok (.istore 7, 2) := by decide +kernel
end
