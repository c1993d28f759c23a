/-! ===== where the numbers stand: a house's 378 numbers, as the model's row has them ===== -/
def iC (c w : Nat) : Nat := 28 + 6 * c + w
def iK (k w : Nat) : Nat := 58 + 8 * k + w
/-- whose cell, which place: of a house's numbers -/
def owH (i : Nat) : Nat × Nat := if i = 0 then (0, 0) else if i = 1 then (2, 0) else if i = 2 then (9, 0) else if i = 3 then (2, 1) else if i < 28 then (1, i - 4) else if i < 58 then (3 + (i - 28) % 6, (i - 28) / 6) else (10 + (i - 58) % 8, (i - 58) / 8)

def LH : List gl_Ce := [.inr (.inl (3, [.inl 0, .inr 1, .inr 2, .inr 9])),
  .inl (24, fun h => (4 + h)),
  .inr (.inl (1, [.inl 1, .inl 3, .inr 3, .inr 4, .inr 5, .inr 6, .inr 7, .inr 8])),
  .inl (5, fun c => iC c 0),
  .inl (5, fun c => iC c 1),
  .inl (5, fun c => iC c 2),
  .inl (5, fun c => iC c 3),
  .inl (5, fun c => iC c 4),
  .inl (5, fun c => iC c 5),
  .inr (.inl (0, [.inl 2, .inr 10, .inr 11, .inr 12, .inr 13, .inr 14, .inr 15, .inr 16, .inr 17])),
  .inl (40, fun k => iK k 0),
  .inl (40, fun k => iK k 1),
  .inl (40, fun k => iK k 2),
  .inl (40, fun k => iK k 3),
  .inl (40, fun k => iK k 4),
  .inl (40, fun k => iK k 5),
  .inl (40, fun k => iK k 6),
  .inl (40, fun k => iK k 7)]
theorem ok_LH : gl_ok LH := gl_ok_of (ow := owH) (by decide +kernel)
/-- two houses -/
def L2 : List gl_Ce := [.inr (.inl (3, [.inl 0, .inr 1, .inr 2, .inr 9])),
  .inl (24, fun h => (4 + h)),
  .inr (.inl (1, [.inl 1, .inl 3, .inr 3, .inr 4, .inr 5, .inr 6, .inr 7, .inr 8])),
  .inl (5, fun c => iC c 0),
  .inl (5, fun c => iC c 1),
  .inl (5, fun c => iC c 2),
  .inl (5, fun c => iC c 3),
  .inl (5, fun c => iC c 4),
  .inl (5, fun c => iC c 5),
  .inr (.inl (0, [.inl 2, .inr 10, .inr 11, .inr 12, .inr 13, .inr 14, .inr 15, .inr 16, .inr 17])),
  .inl (40, fun k => iK k 0),
  .inl (40, fun k => iK k 1),
  .inl (40, fun k => iK k 2),
  .inl (40, fun k => iK k 3),
  .inl (40, fun k => iK k 4),
  .inl (40, fun k => iK k 5),
  .inl (40, fun k => iK k 6),
  .inl (40, fun k => iK k 7),
  .inr (.inl (3, [.inl 378, .inr 19, .inr 20, .inr 27])),
  .inl (24, fun h => 378 + (4 + h)),
  .inr (.inl (1, [.inl 379, .inl 381, .inr 21, .inr 22, .inr 23, .inr 24, .inr 25, .inr 26])),
  .inl (5, fun c => 378 + iC c 0),
  .inl (5, fun c => 378 + iC c 1),
  .inl (5, fun c => 378 + iC c 2),
  .inl (5, fun c => 378 + iC c 3),
  .inl (5, fun c => 378 + iC c 4),
  .inl (5, fun c => 378 + iC c 5),
  .inr (.inl (0, [.inl 380, .inr 28, .inr 29, .inr 30, .inr 31, .inr 32, .inr 33, .inr 34, .inr 35])),
  .inl (40, fun k => 378 + iK k 0),
  .inl (40, fun k => 378 + iK k 1),
  .inl (40, fun k => 378 + iK k 2),
  .inl (40, fun k => 378 + iK k 3),
  .inl (40, fun k => 378 + iK k 4),
  .inl (40, fun k => 378 + iK k 5),
  .inl (40, fun k => 378 + iK k 6),
  .inl (40, fun k => 378 + iK k 7)]
theorem ok_L2 : gl_ok L2 := gl_ok_of (ow := fun i => if i < 378 then owH i else ((owH (i - 378)).1 + 18, (owH (i - 378)).2)) (by decide +kernel)
/-- a GoalLifts: the house, the forecast, the five states of the history; itself, its history, the row of states -/
def LC : List gl_Ce := [.inr (.inl (3, [.inl 0, .inr 1, .inr 2, .inr 9])),
  .inl (24, fun h => (4 + h)),
  .inr (.inl (1, [.inl 1, .inl 3, .inr 3, .inr 4, .inr 5, .inr 6, .inr 7, .inr 8])),
  .inl (5, fun c => iC c 0),
  .inl (5, fun c => iC c 1),
  .inl (5, fun c => iC c 2),
  .inl (5, fun c => iC c 3),
  .inl (5, fun c => iC c 4),
  .inl (5, fun c => iC c 5),
  .inr (.inl (0, [.inl 2, .inr 10, .inr 11, .inr 12, .inr 13, .inr 14, .inr 15, .inr 16, .inr 17])),
  .inl (40, fun k => iK k 0),
  .inl (40, fun k => iK k 1),
  .inl (40, fun k => iK k 2),
  .inl (40, fun k => iK k 3),
  .inl (40, fun k => iK k 4),
  .inl (40, fun k => iK k 5),
  .inl (40, fun k => iK k 6),
  .inl (40, fun k => iK k 7),
  .inr (.inl (3, [.inl 378, .inr 19, .inr 20, .inr 27])),
  .inl (24, fun h => 378 + (4 + h)),
  .inr (.inl (1, [.inl 379, .inl 381, .inr 21, .inr 22, .inr 23, .inr 24, .inr 25, .inr 26])),
  .inl (5, fun c => 378 + iC c 0),
  .inl (5, fun c => 378 + iC c 1),
  .inl (5, fun c => 378 + iC c 2),
  .inl (5, fun c => 378 + iC c 3),
  .inl (5, fun c => 378 + iC c 4),
  .inl (5, fun c => 378 + iC c 5),
  .inr (.inl (0, [.inl 380, .inr 28, .inr 29, .inr 30, .inr 31, .inr 32, .inr 33, .inr 34, .inr 35])),
  .inl (40, fun k => 378 + iK k 0),
  .inl (40, fun k => 378 + iK k 1),
  .inl (40, fun k => 378 + iK k 2),
  .inl (40, fun k => 378 + iK k 3),
  .inl (40, fun k => 378 + iK k 4),
  .inl (40, fun k => 378 + iK k 5),
  .inl (40, fun k => 378 + iK k 6),
  .inl (40, fun k => 378 + iK k 7),
  .inr (.inl (3, [.inl 756, .inr 37, .inr 38, .inr 45])),
  .inl (24, fun h => 756 + (4 + h)),
  .inr (.inl (1, [.inl 757, .inl 759, .inr 39, .inr 40, .inr 41, .inr 42, .inr 43, .inr 44])),
  .inl (5, fun c => 756 + iC c 0),
  .inl (5, fun c => 756 + iC c 1),
  .inl (5, fun c => 756 + iC c 2),
  .inl (5, fun c => 756 + iC c 3),
  .inl (5, fun c => 756 + iC c 4),
  .inl (5, fun c => 756 + iC c 5),
  .inr (.inl (0, [.inl 758, .inr 46, .inr 47, .inr 48, .inr 49, .inr 50, .inr 51, .inr 52, .inr 53])),
  .inl (40, fun k => 756 + iK k 0),
  .inl (40, fun k => 756 + iK k 1),
  .inl (40, fun k => 756 + iK k 2),
  .inl (40, fun k => 756 + iK k 3),
  .inl (40, fun k => 756 + iK k 4),
  .inl (40, fun k => 756 + iK k 5),
  .inl (40, fun k => 756 + iK k 6),
  .inl (40, fun k => 756 + iK k 7),
  .inr (.inl (3, [.inl 1134, .inr 55, .inr 56, .inr 63])),
  .inl (24, fun h => 1134 + (4 + h)),
  .inr (.inl (1, [.inl 1135, .inl 1137, .inr 57, .inr 58, .inr 59, .inr 60, .inr 61, .inr 62])),
  .inl (5, fun c => 1134 + iC c 0),
  .inl (5, fun c => 1134 + iC c 1),
  .inl (5, fun c => 1134 + iC c 2),
  .inl (5, fun c => 1134 + iC c 3),
  .inl (5, fun c => 1134 + iC c 4),
  .inl (5, fun c => 1134 + iC c 5),
  .inr (.inl (0, [.inl 1136, .inr 64, .inr 65, .inr 66, .inr 67, .inr 68, .inr 69, .inr 70, .inr 71])),
  .inl (40, fun k => 1134 + iK k 0),
  .inl (40, fun k => 1134 + iK k 1),
  .inl (40, fun k => 1134 + iK k 2),
  .inl (40, fun k => 1134 + iK k 3),
  .inl (40, fun k => 1134 + iK k 4),
  .inl (40, fun k => 1134 + iK k 5),
  .inl (40, fun k => 1134 + iK k 6),
  .inl (40, fun k => 1134 + iK k 7),
  .inr (.inl (3, [.inl 1512, .inr 73, .inr 74, .inr 81])),
  .inl (24, fun h => 1512 + (4 + h)),
  .inr (.inl (1, [.inl 1513, .inl 1515, .inr 75, .inr 76, .inr 77, .inr 78, .inr 79, .inr 80])),
  .inl (5, fun c => 1512 + iC c 0),
  .inl (5, fun c => 1512 + iC c 1),
  .inl (5, fun c => 1512 + iC c 2),
  .inl (5, fun c => 1512 + iC c 3),
  .inl (5, fun c => 1512 + iC c 4),
  .inl (5, fun c => 1512 + iC c 5),
  .inr (.inl (0, [.inl 1514, .inr 82, .inr 83, .inr 84, .inr 85, .inr 86, .inr 87, .inr 88, .inr 89])),
  .inl (40, fun k => 1512 + iK k 0),
  .inl (40, fun k => 1512 + iK k 1),
  .inl (40, fun k => 1512 + iK k 2),
  .inl (40, fun k => 1512 + iK k 3),
  .inl (40, fun k => 1512 + iK k 4),
  .inl (40, fun k => 1512 + iK k 5),
  .inl (40, fun k => 1512 + iK k 6),
  .inl (40, fun k => 1512 + iK k 7),
  .inr (.inl (3, [.inl 1890, .inr 91, .inr 92, .inr 99])),
  .inl (24, fun h => 1890 + (4 + h)),
  .inr (.inl (1, [.inl 1891, .inl 1893, .inr 93, .inr 94, .inr 95, .inr 96, .inr 97, .inr 98])),
  .inl (5, fun c => 1890 + iC c 0),
  .inl (5, fun c => 1890 + iC c 1),
  .inl (5, fun c => 1890 + iC c 2),
  .inl (5, fun c => 1890 + iC c 3),
  .inl (5, fun c => 1890 + iC c 4),
  .inl (5, fun c => 1890 + iC c 5),
  .inr (.inl (0, [.inl 1892, .inr 100, .inr 101, .inr 102, .inr 103, .inr 104, .inr 105, .inr 106, .inr 107])),
  .inl (40, fun k => 1890 + iK k 0),
  .inl (40, fun k => 1890 + iK k 1),
  .inl (40, fun k => 1890 + iK k 2),
  .inl (40, fun k => 1890 + iK k 3),
  .inl (40, fun k => 1890 + iK k 4),
  .inl (40, fun k => 1890 + iK k 5),
  .inl (40, fun k => 1890 + iK k 6),
  .inl (40, fun k => 1890 + iK k 7),
  .inr (.inl (3, [.inl 2268, .inr 109, .inr 110, .inr 117])),
  .inl (24, fun h => 2268 + (4 + h)),
  .inr (.inl (1, [.inl 2269, .inl 2271, .inr 111, .inr 112, .inr 113, .inr 114, .inr 115, .inr 116])),
  .inl (5, fun c => 2268 + iC c 0),
  .inl (5, fun c => 2268 + iC c 1),
  .inl (5, fun c => 2268 + iC c 2),
  .inl (5, fun c => 2268 + iC c 3),
  .inl (5, fun c => 2268 + iC c 4),
  .inl (5, fun c => 2268 + iC c 5),
  .inr (.inl (0, [.inl 2270, .inr 118, .inr 119, .inr 120, .inr 121, .inr 122, .inr 123, .inr 124, .inr 125])),
  .inl (40, fun k => 2268 + iK k 0),
  .inl (40, fun k => 2268 + iK k 1),
  .inl (40, fun k => 2268 + iK k 2),
  .inl (40, fun k => 2268 + iK k 3),
  .inl (40, fun k => 2268 + iK k 4),
  .inl (40, fun k => 2268 + iK k 5),
  .inl (40, fun k => 2268 + iK k 6),
  .inl (40, fun k => 2268 + iK k 7),
  .inr (.inl (4, [.inr 0, .inr 18, .inr 127])),
  .inr (.inl (2, [.inl 2646, .inl 2647, .inr 128])),
  .inr (.inr (5, fun k => 36 + 18 * k))]
theorem ok_LC : gl_ok LC := gl_ok_of (ow := fun i => if i < 2646 then ((owH (i % 378)).1 + 18 * (i / 378), (owH (i % 378)).2) else (127, i - 2646)) (by decide +kernel)
/-- the model -/
def LM : List gl_Ce := [.inr (.inl (5, [.inr 1, .inr 2, .inr 3, .inr 4, .inl 378])),
  .inl (378, fun i => i),
  .inl (1890, fun i => 1200 + i),
  .inl (378, fun i => 400 + i),
  .inl (378, fun i => 800 + i)]
theorem ok_LM : gl_ok LM := gl_ok_of (ow := fun i => if i < 378 then (1, i) else if i = 378 then (0, 4) else if i < 800 then (3, i - 400) else if i < 1200 then (4, i - 800) else (2, i - 1200)) (by decide +kernel)
abbrev rmX4_addCar : Room := { frames := 4, cells := 0, slots := 0, locals := 94 }
theorem hdX4_addCar : gl_hd yX4_addCar RX4 3 := ⟨rfl, by decide +kernel, by decide +kernel, by decide +kernel⟩
abbrev rmX4_setAwake : Room := { frames := 4, cells := 0, slots := 0, locals := 94 }
theorem hdX4_setAwake : gl_hd yX4_setAwake RX4 2 := ⟨rfl, by decide +kernel, by decide +kernel, by decide +kernel⟩
abbrev rmX4_hold : Room := { frames := 4, cells := 0, slots := 0, locals := 94 }
theorem hdX4_hold : gl_hd yX4_hold RX4 2 := ⟨rfl, by decide +kernel, by decide +kernel, by decide +kernel⟩
abbrev rmX4_fail : Room := { frames := 4, cells := 0, slots := 0, locals := 94 }
theorem hdX4_fail : gl_hd yX4_fail RX4 1 := ⟨rfl, by decide +kernel, by decide +kernel, by decide +kernel⟩
abbrev rmX4_repair : Room := { frames := 4, cells := 0, slots := 0, locals := 94 }
theorem hdX4_repair : gl_hd yX4_repair RX4 1 := ⟨rfl, by decide +kernel, by decide +kernel, by decide +kernel⟩
abbrev rmX4_call : Room := { frames := 4, cells := 0, slots := 0, locals := 96 }
theorem hdX4_call : gl_hd yX4_call RX4 2 := ⟨rfl, by decide +kernel, by decide +kernel, by decide +kernel⟩
abbrev rmX4_pass : Room := { frames := 5, cells := 0, slots := 0, locals := 117 }
theorem hdX4_pass : gl_hd yX4_pass RX4 1 := ⟨rfl, by decide +kernel, by decide +kernel, by decide +kernel⟩
abbrev rmX4_undo : Room := { frames := 4, cells := 0, slots := 0, locals := 95 }
theorem hdX4_undo : gl_hd yX4_undo RX4 0 := ⟨rfl, by decide +kernel, by decide +kernel, by decide +kernel⟩
abbrev rmX4_count : Room := { frames := 4, cells := 0, slots := 0, locals := 87 }
theorem hdX4_count : gl_hd yX4_count RX4 1 := ⟨rfl, by decide +kernel, by decide +kernel, by decide +kernel⟩
abbrev rmX4_car : Room := { frames := 3, cells := 0, slots := 0, locals := 70 }
theorem hdX4_car : gl_hd yX4_car RX4 2 := ⟨rfl, by decide +kernel, by decide +kernel, by decide +kernel⟩
abbrev rmX4_caller : Room := { frames := 1, cells := 0, slots := 0, locals := 21 }
theorem hdX4_caller : gl_hd yX4_caller RX4 2 := ⟨rfl, by decide +kernel, by decide +kernel, by decide +kernel⟩
abbrev rmX4_group : Room := { frames := 4, cells := 0, slots := 0, locals := 88 }
theorem hdX4_group : gl_hd yX4_group RX4 2 := ⟨rfl, by decide +kernel, by decide +kernel, by decide +kernel⟩
abbrev rmX4_cost : Room := { frames := 3, cells := 0, slots := 0, locals := 70 }
theorem hdX4_cost : gl_hd yX4_cost RX4 3 := ⟨rfl, by decide +kernel, by decide +kernel, by decide +kernel⟩
abbrev rmX4_would : Room := { frames := 4, cells := 0, slots := 0, locals := 96 }
theorem hdX4_would : gl_hd yX4_would RX4 2 := ⟨rfl, by decide +kernel, by decide +kernel, by decide +kernel⟩
abbrev rmX4_thereIn : Room := { frames := 5, cells := 0, slots := 0, locals := 117 }
theorem hdX4_thereIn : gl_hd yX4_thereIn RX4 1 := ⟨rfl, by decide +kernel, by decide +kernel, by decide +kernel⟩
abbrev rmX4_waits : Room := { frames := 1, cells := 0, slots := 0, locals := 23 }
theorem hdX4_waits : gl_hd yX4_waits RX4 1 := ⟨rfl, by decide +kernel, by decide +kernel, by decide +kernel⟩
abbrev rmX4_worstCar : Room := { frames := 6, cells := 0, slots := 0, locals := 139 }
theorem hdX4_worstCar : gl_hd yX4_worstCar RX4 1 := ⟨rfl, by decide +kernel, by decide +kernel, by decide +kernel⟩
abbrev rmX4_isFloor : Room := { frames := 0, cells := 0, slots := 0, locals := 0 }
theorem hdX4_isFloor : gl_hd yX4_isFloor RX4 1 := ⟨rfl, by decide +kernel, by decide +kernel, by decide +kernel⟩
abbrev rmX4_isWay : Room := { frames := 1, cells := 0, slots := 0, locals := 20 }
theorem hdX4_isWay : gl_hd yX4_isWay RX4 2 := ⟨rfl, by decide +kernel, by decide +kernel, by decide +kernel⟩
abbrev rmX4_allThereInWithout : Room := { frames := 5, cells := 0, slots := 0, locals := 117 }
theorem hdX4_allThereInWithout : gl_hd yX4_allThereInWithout RX4 1 := ⟨rfl, by decide +kernel, by decide +kernel, by decide +kernel⟩
abbrev rmX5_in : Room := { frames := 0, cells := 0, slots := 0, locals := 0 }
theorem hdX5_in : gl_hd yX5_in RX5 3 := ⟨rfl, by decide +kernel, by decide +kernel, by decide +kernel⟩
abbrev rmX5_acts : Room := { frames := 0, cells := 0, slots := 0, locals := 0 }
theorem hdX5_acts : gl_hd yX5_acts RX5 0 := ⟨rfl, by decide +kernel, by decide +kernel, by decide +kernel⟩
abbrev rmX5_copies : Room := { frames := 0, cells := 0, slots := 0, locals := 0 }
theorem hdX5_copies : gl_hd yX5_copies RX5 2 := ⟨rfl, by decide +kernel, by decide +kernel, by decide +kernel⟩
abbrev rmX5_isCar : Room := { frames := 0, cells := 0, slots := 0, locals := 0 }
theorem hdX5_isCar : gl_hd yX5_isCar RX5 1 := ⟨rfl, by decide +kernel, by decide +kernel, by decide +kernel⟩
abbrev rmX5_isCaller : Room := { frames := 0, cells := 0, slots := 0, locals := 0 }
theorem hdX5_isCaller : gl_hd yX5_isCaller RX5 1 := ⟨rfl, by decide +kernel, by decide +kernel, by decide +kernel⟩
abbrev rmX5_isFloor : Room := { frames := 1, cells := 0, slots := 0, locals := 22 }
theorem hdX5_isFloor : gl_hd yX5_isFloor RX5 1 := ⟨rfl, by decide +kernel, by decide +kernel, by decide +kernel⟩
abbrev rmX5_ofCar : Room := { frames := 0, cells := 0, slots := 0, locals := 0 }
theorem hdX5_ofCar : gl_hd yX5_ofCar RX5 2 := ⟨rfl, by decide +kernel, by decide +kernel, by decide +kernel⟩
abbrev rmX5_putsCar : Room := { frames := 0, cells := 0, slots := 0, locals := 0 }
theorem hdX5_putsCar : gl_hd yX5_putsCar RX5 3 := ⟨rfl, by decide +kernel, by decide +kernel, by decide +kernel⟩
abbrev rmX5_ofCaller : Room := { frames := 0, cells := 0, slots := 0, locals := 0 }
theorem hdX5_ofCaller : gl_hd yX5_ofCaller RX5 2 := ⟨rfl, by decide +kernel, by decide +kernel, by decide +kernel⟩
abbrev rmX5_puts : Room := { frames := 0, cells := 0, slots := 0, locals := 0 }
theorem hdX5_puts : gl_hd yX5_puts RX5 3 := ⟨rfl, by decide +kernel, by decide +kernel, by decide +kernel⟩
abbrev rmX5_hour : Room := { frames := 0, cells := 0, slots := 0, locals := 0 }
theorem hdX5_hour : gl_hd yX5_hour RX5 0 := ⟨rfl, by decide +kernel, by decide +kernel, by decide +kernel⟩
abbrev rmX5_isAwake : Room := { frames := 1, cells := 0, slots := 0, locals := 20 }
theorem hdX5_isAwake : gl_hd yX5_isAwake RX5 1 := ⟨rfl, by decide +kernel, by decide +kernel, by decide +kernel⟩
abbrev rmX5_many : Room := { frames := 1, cells := 0, slots := 0, locals := 22 }
theorem hdX5_many : gl_hd yX5_many RX5 2 := ⟨rfl, by decide +kernel, by decide +kernel, by decide +kernel⟩
abbrev rmX5_inAll : Room := { frames := 1, cells := 0, slots := 0, locals := 22 }
theorem hdX5_inAll : gl_hd yX5_inAll RX5 1 := ⟨rfl, by decide +kernel, by decide +kernel, by decide +kernel⟩
abbrev rmX5_stops : Room := { frames := 1, cells := 0, slots := 0, locals := 22 }
theorem hdX5_stops : gl_hd yX5_stops RX5 1 := ⟨rfl, by decide +kernel, by decide +kernel, by decide +kernel⟩
abbrev rmX5_ones : Room := { frames := 0, cells := 0, slots := 0, locals := 0 }
theorem hdX5_ones : gl_hd yX5_ones RX5 1 := ⟨rfl, by decide +kernel, by decide +kernel, by decide +kernel⟩
abbrev rmX5_far : Room := { frames := 0, cells := 0, slots := 0, locals := 0 }
theorem hdX5_far : gl_hd yX5_far RX5 2 := ⟨rfl, by decide +kernel, by decide +kernel, by decide +kernel⟩
abbrev rmX5_canBeGiven : Room := { frames := 2, cells := 0, slots := 0, locals := 41 }
theorem hdX5_canBeGiven : gl_hd yX5_canBeGiven RX5 3 := ⟨rfl, by decide +kernel, by decide +kernel, by decide +kernel⟩
abbrev rmX5_costOf : Room := { frames := 2, cells := 0, slots := 0, locals := 46 }
theorem hdX5_costOf : gl_hd yX5_costOf RX5 3 := ⟨rfl, by decide +kernel, by decide +kernel, by decide +kernel⟩
abbrev rmX5_best : Room := { frames := 3, cells := 0, slots := 0, locals := 70 }
theorem hdX5_best : gl_hd yX5_best RX5 2 := ⟨rfl, by decide +kernel, by decide +kernel, by decide +kernel⟩
abbrev rmX5_gives : Room := { frames := 4, cells := 0, slots := 0, locals := 97 }
theorem hdX5_gives : gl_hd yX5_gives RX5 1 := ⟨rfl, by decide +kernel, by decide +kernel, by decide +kernel⟩
abbrev rmX5_aim : Room := { frames := 1, cells := 0, slots := 0, locals := 22 }
theorem hdX5_aim : gl_hd yX5_aim RX5 1 := ⟨rfl, by decide +kernel, by decide +kernel, by decide +kernel⟩
abbrev rmX5_isOut : Room := { frames := 1, cells := 0, slots := 0, locals := 22 }
theorem hdX5_isOut : gl_hd yX5_isOut RX5 2 := ⟨rfl, by decide +kernel, by decide +kernel, by decide +kernel⟩
abbrev rmX5_isTaken : Room := { frames := 1, cells := 0, slots := 0, locals := 22 }
theorem hdX5_isTaken : gl_hd yX5_isTaken RX5 2 := ⟨rfl, by decide +kernel, by decide +kernel, by decide +kernel⟩
abbrev rmX5_isStop : Room := { frames := 2, cells := 0, slots := 0, locals := 46 }
theorem hdX5_isStop : gl_hd yX5_isStop RX5 1 := ⟨rfl, by decide +kernel, by decide +kernel, by decide +kernel⟩
abbrev rmX5_stopsNow : Room := { frames := 2, cells := 0, slots := 0, locals := 46 }
theorem hdX5_stopsNow : gl_hd yX5_stopsNow RX5 1 := ⟨rfl, by decide +kernel, by decide +kernel, by decide +kernel⟩
abbrev rmX5_ticks : Room := { frames := 5, cells := 0, slots := 0, locals := 119 }
theorem hdX5_ticks : gl_hd yX5_ticks RX5 0 := ⟨rfl, by decide +kernel, by decide +kernel, by decide +kernel⟩
abbrev rmX5_fails : Room := { frames := 2, cells := 0, slots := 0, locals := 44 }
theorem hdX5_fails : gl_hd yX5_fails RX5 1 := ⟨rfl, by decide +kernel, by decide +kernel, by decide +kernel⟩
abbrev rmX5_addCar : Room := { frames := 1, cells := 0, slots := 0, locals := 23 }
theorem hdX5_addCar : gl_hd yX5_addCar RX5 3 := ⟨rfl, by decide +kernel, by decide +kernel, by decide +kernel⟩
abbrev rmX5_setAwake : Room := { frames := 1, cells := 0, slots := 0, locals := 22 }
theorem hdX5_setAwake : gl_hd yX5_setAwake RX5 2 := ⟨rfl, by decide +kernel, by decide +kernel, by decide +kernel⟩
abbrev rmX5_hold : Room := { frames := 2, cells := 0, slots := 0, locals := 46 }
theorem hdX5_hold : gl_hd yX5_hold RX5 2 := ⟨rfl, by decide +kernel, by decide +kernel, by decide +kernel⟩
abbrev rmX5_fail : Room := { frames := 3, cells := 0, slots := 0, locals := 67 }
theorem hdX5_fail : gl_hd yX5_fail RX5 1 := ⟨rfl, by decide +kernel, by decide +kernel, by decide +kernel⟩
abbrev rmX5_repair : Room := { frames := 1, cells := 0, slots := 0, locals := 23 }
theorem hdX5_repair : gl_hd yX5_repair RX5 1 := ⟨rfl, by decide +kernel, by decide +kernel, by decide +kernel⟩
abbrev rmX5_isWay : Room := { frames := 2, cells := 0, slots := 0, locals := 42 }
theorem hdX5_isWay : gl_hd yX5_isWay RX5 2 := ⟨rfl, by decide +kernel, by decide +kernel, by decide +kernel⟩
abbrev rmX5_call : Room := { frames := 5, cells := 0, slots := 0, locals := 119 }
theorem hdX5_call : gl_hd yX5_call RX5 2 := ⟨rfl, by decide +kernel, by decide +kernel, by decide +kernel⟩
abbrev rmX5_pass : Room := { frames := 6, cells := 0, slots := 0, locals := 141 }
theorem hdX5_pass : gl_hd yX5_pass RX5 1 := ⟨rfl, by decide +kernel, by decide +kernel, by decide +kernel⟩
abbrev rmX5_undo : Room := { frames := 0, cells := 0, slots := 0, locals := 0 }
theorem hdX5_undo : gl_hd yX5_undo RX5 0 := ⟨rfl, by decide +kernel, by decide +kernel, by decide +kernel⟩
abbrev rmX5_isOpen : Room := { frames := 1, cells := 0, slots := 0, locals := 22 }
theorem hdX5_isOpen : gl_hd yX5_isOpen RX5 1 := ⟨rfl, by decide +kernel, by decide +kernel, by decide +kernel⟩
abbrev rmX5_isFirst : Room := { frames := 2, cells := 0, slots := 0, locals := 44 }
theorem hdX5_isFirst : gl_hd yX5_isFirst RX5 1 := ⟨rfl, by decide +kernel, by decide +kernel, by decide +kernel⟩
abbrev rmX5_areOne : Room := { frames := 1, cells := 0, slots := 0, locals := 22 }
theorem hdX5_areOne : gl_hd yX5_areOne RX5 2 := ⟨rfl, by decide +kernel, by decide +kernel, by decide +kernel⟩
abbrev rmX5_groups : Room := { frames := 3, cells := 0, slots := 0, locals := 67 }
theorem hdX5_groups : gl_hd yX5_groups RX5 0 := ⟨rfl, by decide +kernel, by decide +kernel, by decide +kernel⟩
abbrev rmX5_sumOfCars : Room := { frames := 1, cells := 0, slots := 0, locals := 22 }
theorem hdX5_sumOfCars : gl_hd yX5_sumOfCars RX5 2 := ⟨rfl, by decide +kernel, by decide +kernel, by decide +kernel⟩
abbrev rmX5_count : Room := { frames := 4, cells := 0, slots := 0, locals := 89 }
theorem hdX5_count : gl_hd yX5_count RX5 1 := ⟨rfl, by decide +kernel, by decide +kernel, by decide +kernel⟩
abbrev rmX5_car : Room := { frames := 2, cells := 0, slots := 0, locals := 49 }
theorem hdX5_car : gl_hd yX5_car RX5 2 := ⟨rfl, by decide +kernel, by decide +kernel, by decide +kernel⟩
abbrev rmX5_caller : Room := { frames := 1, cells := 0, slots := 0, locals := 22 }
theorem hdX5_caller : gl_hd yX5_caller RX5 2 := ⟨rfl, by decide +kernel, by decide +kernel, by decide +kernel⟩
abbrev rmX5_group : Room := { frames := 3, cells := 0, slots := 0, locals := 67 }
theorem hdX5_group : gl_hd yX5_group RX5 2 := ⟨rfl, by decide +kernel, by decide +kernel, by decide +kernel⟩
abbrev rmX5_cost : Room := { frames := 3, cells := 0, slots := 0, locals := 70 }
theorem hdX5_cost : gl_hd yX5_cost RX5 3 := ⟨rfl, by decide +kernel, by decide +kernel, by decide +kernel⟩
abbrev rmX5_would : Room := { frames := 4, cells := 0, slots := 0, locals := 97 }
theorem hdX5_would : gl_hd yX5_would RX5 2 := ⟨rfl, by decide +kernel, by decide +kernel, by decide +kernel⟩
abbrev rmX5_thereIn : Room := { frames := 6, cells := 0, slots := 0, locals := 141 }
theorem hdX5_thereIn : gl_hd yX5_thereIn RX5 1 := ⟨rfl, by decide +kernel, by decide +kernel, by decide +kernel⟩
abbrev rmX5_waited : Room := { frames := 1, cells := 0, slots := 0, locals := 22 }
theorem hdX5_waited : gl_hd yX5_waited RX5 1 := ⟨rfl, by decide +kernel, by decide +kernel, by decide +kernel⟩
abbrev rmX5_waits : Room := { frames := 2, cells := 0, slots := 0, locals := 43 }
theorem hdX5_waits : gl_hd yX5_waits RX5 1 := ⟨rfl, by decide +kernel, by decide +kernel, by decide +kernel⟩
abbrev rmX5_allThere : Room := { frames := 6, cells := 0, slots := 0, locals := 141 }
theorem hdX5_allThere : gl_hd yX5_allThere RX5 0 := ⟨rfl, by decide +kernel, by decide +kernel, by decide +kernel⟩
abbrev rmX5_worstCar : Room := { frames := 7, cells := 0, slots := 0, locals := 162 }
theorem hdX5_worstCar : gl_hd yX5_worstCar RX5 1 := ⟨rfl, by decide +kernel, by decide +kernel, by decide +kernel⟩
abbrev rmX0_copyFrom : Room := { frames := 1, cells := 0, slots := 0, locals := 30 }
theorem hdX0_copyFrom : gl_hd yX0_copyFrom RX0 1 := ⟨rfl, by decide +kernel, by decide +kernel, by decide +kernel⟩
abbrev rmX0_has : Room := { frames := 0, cells := 0, slots := 0, locals := 0 }
theorem hdX0_has : gl_hd yX0_has RX0 1 := ⟨rfl, by decide +kernel, by decide +kernel, by decide +kernel⟩
abbrev rmX0_add : Room := { frames := 0, cells := 0, slots := 0, locals := 0 }
theorem hdX0_add : gl_hd yX0_add RX0 3 := ⟨rfl, by decide +kernel, by decide +kernel, by decide +kernel⟩
abbrev rmX0_give : Room := { frames := 1, cells := 0, slots := 0, locals := 21 }
theorem hdX0_give : gl_hd yX0_give RX0 2 := ⟨rfl, by decide +kernel, by decide +kernel, by decide +kernel⟩
abbrev rmX0_rides : Room := { frames := 0, cells := 0, slots := 0, locals := 0 }
theorem hdX0_rides : gl_hd yX0_rides RX0 2 := ⟨rfl, by decide +kernel, by decide +kernel, by decide +kernel⟩
abbrev rmX0_waitsFor : Room := { frames := 0, cells := 0, slots := 0, locals := 0 }
theorem hdX0_waitsFor : gl_hd yX0_waitsFor RX0 2 := ⟨rfl, by decide +kernel, by decide +kernel, by decide +kernel⟩
abbrev rmX0_numberIn : Room := { frames := 0, cells := 0, slots := 0, locals := 0 }
theorem hdX0_numberIn : gl_hd yX0_numberIn RX0 1 := ⟨rfl, by decide +kernel, by decide +kernel, by decide +kernel⟩
abbrev rmX0_numberOf : Room := { frames := 0, cells := 0, slots := 0, locals := 0 }
theorem hdX0_numberOf : gl_hd yX0_numberOf RX0 2 := ⟨rfl, by decide +kernel, by decide +kernel, by decide +kernel⟩
abbrev rmX0_numberWith : Room := { frames := 1, cells := 0, slots := 0, locals := 24 }
theorem hdX0_numberWith : gl_hd yX0_numberWith RX0 1 := ⟨rfl, by decide +kernel, by decide +kernel, by decide +kernel⟩
abbrev rmX0_stopsOf : Room := { frames := 1, cells := 0, slots := 0, locals := 22 }
theorem hdX0_stopsOf : gl_hd yX0_stopsOf RX0 1 := ⟨rfl, by decide +kernel, by decide +kernel, by decide +kernel⟩
abbrev rmX0_aimOf : Room := { frames := 2, cells := 0, slots := 0, locals := 45 }
theorem hdX0_aimOf : gl_hd yX0_aimOf RX0 2 := ⟨rfl, by decide +kernel, by decide +kernel, by decide +kernel⟩
abbrev rmX0_isNearer : Room := { frames := 1, cells := 0, slots := 0, locals := 21 }
theorem hdX0_isNearer : gl_hd yX0_isNearer RX0 3 := ⟨rfl, by decide +kernel, by decide +kernel, by decide +kernel⟩
abbrev rmX0_letOut : Room := { frames := 1, cells := 0, slots := 0, locals := 22 }
theorem hdX0_letOut : gl_hd yX0_letOut RX0 3 := ⟨rfl, by decide +kernel, by decide +kernel, by decide +kernel⟩
abbrev rmX0_takeIn : Room := { frames := 1, cells := 0, slots := 0, locals := 24 }
theorem hdX0_takeIn : gl_hd yX0_takeIn RX0 4 := ⟨rfl, by decide +kernel, by decide +kernel, by decide +kernel⟩
abbrev rmX0_loseCar : Room := { frames := 1, cells := 0, slots := 0, locals := 22 }
theorem hdX0_loseCar : gl_hd yX0_loseCar RX0 3 := ⟨rfl, by decide +kernel, by decide +kernel, by decide +kernel⟩
abbrev rmX0_waitOf : Room := { frames := 0, cells := 0, slots := 0, locals := 0 }
theorem hdX0_waitOf : gl_hd yX0_waitOf RX0 2 := ⟨rfl, by decide +kernel, by decide +kernel, by decide +kernel⟩
abbrev rmX0_isInGroup : Room := { frames := 0, cells := 0, slots := 0, locals := 0 }
theorem hdX0_isInGroup : gl_hd yX0_isInGroup RX0 1 := ⟨rfl, by decide +kernel, by decide +kernel, by decide +kernel⟩
abbrev rmX0_sameGroup : Room := { frames := 1, cells := 0, slots := 0, locals := 21 }
theorem hdX0_sameGroup : gl_hd yX0_sameGroup RX0 2 := ⟨rfl, by decide +kernel, by decide +kernel, by decide +kernel⟩
abbrev rmX0_isFirstOfGroup : Room := { frames := 2, cells := 0, slots := 0, locals := 43 }
theorem hdX0_isFirstOfGroup : gl_hd yX0_isFirstOfGroup RX0 1 := ⟨rfl, by decide +kernel, by decide +kernel, by decide +kernel⟩
abbrev rmX0_numberOfGroups : Room := { frames := 3, cells := 0, slots := 0, locals := 65 }
theorem hdX0_numberOfGroups : gl_hd yX0_numberOfGroups RX0 0 := ⟨rfl, by decide +kernel, by decide +kernel, by decide +kernel⟩
abbrev rmX0_firstOfGroup : Room := { frames := 3, cells := 0, slots := 0, locals := 65 }
theorem hdX0_firstOfGroup : gl_hd yX0_firstOfGroup RX0 1 := ⟨rfl, by decide +kernel, by decide +kernel, by decide +kernel⟩
abbrev rmX0_sizeOfGroup : Room := { frames := 2, cells := 0, slots := 0, locals := 43 }
theorem hdX0_sizeOfGroup : gl_hd yX0_sizeOfGroup RX0 1 := ⟨rfl, by decide +kernel, by decide +kernel, by decide +kernel⟩
abbrev rmX1_copyFrom : Room := { frames := 1, cells := 0, slots := 0, locals := 30 }
theorem hdX1_copyFrom : gl_hd yX1_copyFrom RX1 1 := ⟨rfl, by decide +kernel, by decide +kernel, by decide +kernel⟩
abbrev rmX1_has : Room := { frames := 0, cells := 0, slots := 0, locals := 0 }
theorem hdX1_has : gl_hd yX1_has RX1 1 := ⟨rfl, by decide +kernel, by decide +kernel, by decide +kernel⟩
abbrev rmX1_add : Room := { frames := 0, cells := 0, slots := 0, locals := 0 }
theorem hdX1_add : gl_hd yX1_add RX1 3 := ⟨rfl, by decide +kernel, by decide +kernel, by decide +kernel⟩
abbrev rmX1_serves : Room := { frames := 0, cells := 0, slots := 0, locals := 0 }
theorem hdX1_serves : gl_hd yX1_serves RX1 2 := ⟨rfl, by decide +kernel, by decide +kernel, by decide +kernel⟩
abbrev rmX1_travelTowards : Room := { frames := 0, cells := 0, slots := 0, locals := 0 }
theorem hdX1_travelTowards : gl_hd yX1_travelTowards RX1 2 := ⟨rfl, by decide +kernel, by decide +kernel, by decide +kernel⟩
abbrev rmX1_numberIn : Room := { frames := 0, cells := 0, slots := 0, locals := 0 }
theorem hdX1_numberIn : gl_hd yX1_numberIn RX1 1 := ⟨rfl, by decide +kernel, by decide +kernel, by decide +kernel⟩
abbrev rmX1_travelledByAll : Room := { frames := 0, cells := 0, slots := 0, locals := 0 }
theorem hdX1_travelledByAll : gl_hd yX1_travelledByAll RX1 0 := ⟨rfl, by decide +kernel, by decide +kernel, by decide +kernel⟩
abbrev rmX2_keep : Room := { frames := 3, cells := 0, slots := 0, locals := 72 }
theorem hdX2_keep : gl_hd yX2_keep RX2 1 := ⟨rfl, by decide +kernel, by decide +kernel, by decide +kernel⟩
abbrev rmX2_restore : Room := { frames := 3, cells := 0, slots := 0, locals := 72 }
theorem hdX2_restore : gl_hd yX2_restore RX2 1 := ⟨rfl, by decide +kernel, by decide +kernel, by decide +kernel⟩
abbrev rmX3_copyFrom : Room := { frames := 2, cells := 0, slots := 0, locals := 51 }
theorem hdX3_copyFrom : gl_hd yX3_copyFrom RX3 1 := ⟨rfl, by decide +kernel, by decide +kernel, by decide +kernel⟩
abbrev rmX3_hour : Room := { frames := 0, cells := 0, slots := 0, locals := 0 }
theorem hdX3_hour : gl_hd yX3_hour RX3 0 := ⟨rfl, by decide +kernel, by decide +kernel, by decide +kernel⟩
abbrev rmX3_isAwake : Room := { frames := 1, cells := 0, slots := 0, locals := 20 }
theorem hdX3_isAwake : gl_hd yX3_isAwake RX3 1 := ⟨rfl, by decide +kernel, by decide +kernel, by decide +kernel⟩
abbrev rmX3_canBeGiven : Room := { frames := 2, cells := 0, slots := 0, locals := 41 }
theorem hdX3_canBeGiven : gl_hd yX3_canBeGiven RX3 3 := ⟨rfl, by decide +kernel, by decide +kernel, by decide +kernel⟩
abbrev rmX3_costOf : Room := { frames := 2, cells := 0, slots := 0, locals := 45 }
theorem hdX3_costOf : gl_hd yX3_costOf RX3 3 := ⟨rfl, by decide +kernel, by decide +kernel, by decide +kernel⟩
abbrev rmX3_bestCar : Room := { frames := 3, cells := 0, slots := 0, locals := 70 }
theorem hdX3_bestCar : gl_hd yX3_bestCar RX3 2 := ⟨rfl, by decide +kernel, by decide +kernel, by decide +kernel⟩
abbrev rmX3_oneTick : Room := { frames := 4, cells := 0, slots := 0, locals := 96 }
theorem hdX3_oneTick : gl_hd yX3_oneTick RX3 0 := ⟨rfl, by decide +kernel, by decide +kernel, by decide +kernel⟩
abbrev rmX3_stopOrTravel : Room := { frames := 3, cells := 0, slots := 0, locals := 70 }
theorem hdX3_stopOrTravel : gl_hd yX3_stopOrTravel RX3 1 := ⟨rfl, by decide +kernel, by decide +kernel, by decide +kernel⟩
abbrev rmX3_breakCar : Room := { frames := 2, cells := 0, slots := 0, locals := 47 }
theorem hdX3_breakCar : gl_hd yX3_breakCar RX3 1 := ⟨rfl, by decide +kernel, by decide +kernel, by decide +kernel⟩
abbrev rmJ6_bitCount_0f7a4 : Room := { frames := 0, cells := 0, slots := 0, locals := 0 }
theorem hdJ6_bitCount_0f7a4 : gl_hd yJ6_bitCount_0f7a4 RJ6 1 := ⟨rfl, by decide +kernel, by decide +kernel, by decide +kernel⟩
abbrev rmJ9_floorMod_7cf53 : Room := { frames := 0, cells := 0, slots := 0, locals := 0 }
theorem hdJ9_floorMod_7cf53 : gl_hd yJ9_floorMod_7cf53 RJ9 2 := ⟨rfl, by decide +kernel, by decide +kernel, by decide +kernel⟩
