/-! ===== where the numbers stand: a house's 378 numbers, as the model's row has them ===== -/
def iC (c w : Nat) : Nat := 28 + 6 * c + w
def iK (k w : Nat) : Nat := 58 + 8 * k + w
/-- whose cell, which place: of a house's numbers -/
def owH (i : Nat) : Nat × Nat := if i = 0 then (0, 0) else if i = 1 then (2, 0) else if i = 2 then (9, 0) else if i = 3 then (2, 1) else if i < 28 then (1, i - 4) else if i < 58 then (3 + (i - 28) % 6, (i - 28) / 6) else (10 + (i - 58) % 8, (i - 58) / 8)

def LH : List gl_Ce := [.inr (.inl (3, [.inl 0, .inr 1, .inr 2, .inr 9])),
  .inl (24, fun h => (4 + h)),
  .inr (.inl (1, [.inl 1, .inl 3, .inr 3, .inr 4, .inr 5, .inr 6, .inr 7, .inr 8])),
  .inl (5, fun c => iC c 0),
  .inl (5, fun c => iC c 1),
  .inl (5, fun c => iC c 2),
  .inl (5, fun c => iC c 3),
  .inl (5, fun c => iC c 4),
  .inl (5, fun c => iC c 5),
  .inr (.inl (0, [.inl 2, .inr 10, .inr 11, .inr 12, .inr 13, .inr 14, .inr 15, .inr 16, .inr 17])),
  .inl (40, fun k => iK k 0),
  .inl (40, fun k => iK k 1),
  .inl (40, fun k => iK k 2),
  .inl (40, fun k => iK k 3),
  .inl (40, fun k => iK k 4),
  .inl (40, fun k => iK k 5),
  .inl (40, fun k => iK k 6),
  .inl (40, fun k => iK k 7)]
theorem ok_LH : gl_ok LH := gl_ok_of (ow := owH) (by decide +kernel)
/-- two houses -/
def L2 : List gl_Ce := [.inr (.inl (3, [.inl 0, .inr 1, .inr 2, .inr 9])),
  .inl (24, fun h => (4 + h)),
  .inr (.inl (1, [.inl 1, .inl 3, .inr 3, .inr 4, .inr 5, .inr 6, .inr 7, .inr 8])),
  .inl (5, fun c => iC c 0),
  .inl (5, fun c => iC c 1),
  .inl (5, fun c => iC c 2),
  .inl (5, fun c => iC c 3),
  .inl (5, fun c => iC c 4),
  .inl (5, fun c => iC c 5),
  .inr (.inl (0, [.inl 2, .inr 10, .inr 11, .inr 12, .inr 13, .inr 14, .inr 15, .inr 16, .inr 17])),
  .inl (40, fun k => iK k 0),
  .inl (40, fun k => iK k 1),
  .inl (40, fun k => iK k 2),
  .inl (40, fun k => iK k 3),
  .inl (40, fun k => iK k 4),
  .inl (40, fun k => iK k 5),
  .inl (40, fun k => iK k 6),
  .inl (40, fun k => iK k 7),
  .inr (.inl (3, [.inl 378, .inr 19, .inr 20, .inr 27])),
  .inl (24, fun h => 378 + (4 + h)),
  .inr (.inl (1, [.inl 379, .inl 381, .inr 21, .inr 22, .inr 23, .inr 24, .inr 25, .inr 26])),
  .inl (5, fun c => 378 + iC c 0),
  .inl (5, fun c => 378 + iC c 1),
  .inl (5, fun c => 378 + iC c 2),
  .inl (5, fun c => 378 + iC c 3),
  .inl (5, fun c => 378 + iC c 4),
  .inl (5, fun c => 378 + iC c 5),
  .inr (.inl (0, [.inl 380, .inr 28, .inr 29, .inr 30, .inr 31, .inr 32, .inr 33, .inr 34, .inr 35])),
  .inl (40, fun k => 378 + iK k 0),
  .inl (40, fun k => 378 + iK k 1),
  .inl (40, fun k => 378 + iK k 2),
  .inl (40, fun k => 378 + iK k 3),
  .inl (40, fun k => 378 + iK k 4),
  .inl (40, fun k => 378 + iK k 5),
  .inl (40, fun k => 378 + iK k 6),
  .inl (40, fun k => 378 + iK k 7)]
theorem ok_L2 : gl_ok L2 := gl_ok_of (ow := fun i => if i < 378 then owH i else ((owH (i - 378)).1 + 18, (owH (i - 378)).2)) (by decide +kernel)
/-- a GoalLifts: the house, the forecast, the five states of the history; itself, its history, the row of states -/
def LC : List gl_Ce := [.inr (.inl (3, [.inl 0, .inr 1, .inr 2, .inr 9])),
  .inl (24, fun h => (4 + h)),
  .inr (.inl (1, [.inl 1, .inl 3, .inr 3, .inr 4, .inr 5, .inr 6, .inr 7, .inr 8])),
  .inl (5, fun c => iC c 0),
  .inl (5, fun c => iC c 1),
  .inl (5, fun c => iC c 2),
  .inl (5, fun c => iC c 3),
  .inl (5, fun c => iC c 4),
  .inl (5, fun c => iC c 5),
  .inr (.inl (0, [.inl 2, .inr 10, .inr 11, .inr 12, .inr 13, .inr 14, .inr 15, .inr 16, .inr 17])),
  .inl (40, fun k => iK k 0),
  .inl (40, fun k => iK k 1),
  .inl (40, fun k => iK k 2),
  .inl (40, fun k => iK k 3),
  .inl (40, fun k => iK k 4),
  .inl (40, fun k => iK k 5),
  .inl (40, fun k => iK k 6),
  .inl (40, fun k => iK k 7),
  .inr (.inl (3, [.inl 378, .inr 19, .inr 20, .inr 27])),
  .inl (24, fun h => 378 + (4 + h)),
  .inr (.inl (1, [.inl 379, .inl 381, .inr 21, .inr 22, .inr 23, .inr 24, .inr 25, .inr 26])),
  .inl (5, fun c => 378 + iC c 0),
  .inl (5, fun c => 378 + iC c 1),
  .inl (5, fun c => 378 + iC c 2),
  .inl (5, fun c => 378 + iC c 3),
  .inl (5, fun c => 378 + iC c 4),
  .inl (5, fun c => 378 + iC c 5),
  .inr (.inl (0, [.inl 380, .inr 28, .inr 29, .inr 30, .inr 31, .inr 32, .inr 33, .inr 34, .inr 35])),
  .inl (40, fun k => 378 + iK k 0),
  .inl (40, fun k => 378 + iK k 1),
  .inl (40, fun k => 378 + iK k 2),
  .inl (40, fun k => 378 + iK k 3),
  .inl (40, fun k => 378 + iK k 4),
  .inl (40, fun k => 378 + iK k 5),
  .inl (40, fun k => 378 + iK k 6),
  .inl (40, fun k => 378 + iK k 7),
  .inr (.inl (3, [.inl 756, .inr 37, .inr 38, .inr 45])),
  .inl (24, fun h => 756 + (4 + h)),
  .inr (.inl (1, [.inl 757, .inl 759, .inr 39, .inr 40, .inr 41, .inr 42, .inr 43, .inr 44])),
  .inl (5, fun c => 756 + iC c 0),
  .inl (5, fun c => 756 + iC c 1),
  .inl (5, fun c => 756 + iC c 2),
  .inl (5, fun c => 756 + iC c 3),
  .inl (5, fun c => 756 + iC c 4),
  .inl (5, fun c => 756 + iC c 5),
  .inr (.inl (0, [.inl 758, .inr 46, .inr 47, .inr 48, .inr 49, .inr 50, .inr 51, .inr 52, .inr 53])),
  .inl (40, fun k => 756 + iK k 0),
  .inl (40, fun k => 756 + iK k 1),
  .inl (40, fun k => 756 + iK k 2),
  .inl (40, fun k => 756 + iK k 3),
  .inl (40, fun k => 756 + iK k 4),
  .inl (40, fun k => 756 + iK k 5),
  .inl (40, fun k => 756 + iK k 6),
  .inl (40, fun k => 756 + iK k 7),
  .inr (.inl (3, [.inl 1134, .inr 55, .inr 56, .inr 63])),
  .inl (24, fun h => 1134 + (4 + h)),
  .inr (.inl (1, [.inl 1135, .inl 1137, .inr 57, .inr 58, .inr 59, .inr 60, .inr 61, .inr 62])),
  .inl (5, fun c => 1134 + iC c 0),
  .inl (5, fun c => 1134 + iC c 1),
  .inl (5, fun c => 1134 + iC c 2),
  .inl (5, fun c => 1134 + iC c 3),
  .inl (5, fun c => 1134 + iC c 4),
  .inl (5, fun c => 1134 + iC c 5),
  .inr (.inl (0, [.inl 1136, .inr 64, .inr 65, .inr 66, .inr 67, .inr 68, .inr 69, .inr 70, .inr 71])),
  .inl (40, fun k => 1134 + iK k 0),
  .inl (40, fun k => 1134 + iK k 1),
  .inl (40, fun k => 1134 + iK k 2),
  .inl (40, fun k => 1134 + iK k 3),
  .inl (40, fun k => 1134 + iK k 4),
  .inl (40, fun k => 1134 + iK k 5),
  .inl (40, fun k => 1134 + iK k 6),
  .inl (40, fun k => 1134 + iK k 7),
  .inr (.inl (3, [.inl 1512, .inr 73, .inr 74, .inr 81])),
  .inl (24, fun h => 1512 + (4 + h)),
  .inr (.inl (1, [.inl 1513, .inl 1515, .inr 75, .inr 76, .inr 77, .inr 78, .inr 79, .inr 80])),
  .inl (5, fun c => 1512 + iC c 0),
  .inl (5, fun c => 1512 + iC c 1),
  .inl (5, fun c => 1512 + iC c 2),
  .inl (5, fun c => 1512 + iC c 3),
  .inl (5, fun c => 1512 + iC c 4),
  .inl (5, fun c => 1512 + iC c 5),
  .inr (.inl (0, [.inl 1514, .inr 82, .inr 83, .inr 84, .inr 85, .inr 86, .inr 87, .inr 88, .inr 89])),
  .inl (40, fun k => 1512 + iK k 0),
  .inl (40, fun k => 1512 + iK k 1),
  .inl (40, fun k => 1512 + iK k 2),
  .inl (40, fun k => 1512 + iK k 3),
  .inl (40, fun k => 1512 + iK k 4),
  .inl (40, fun k => 1512 + iK k 5),
  .inl (40, fun k => 1512 + iK k 6),
  .inl (40, fun k => 1512 + iK k 7),
  .inr (.inl (3, [.inl 1890, .inr 91, .inr 92, .inr 99])),
  .inl (24, fun h => 1890 + (4 + h)),
  .inr (.inl (1, [.inl 1891, .inl 1893, .inr 93, .inr 94, .inr 95, .inr 96, .inr 97, .inr 98])),
  .inl (5, fun c => 1890 + iC c 0),
  .inl (5, fun c => 1890 + iC c 1),
  .inl (5, fun c => 1890 + iC c 2),
  .inl (5, fun c => 1890 + iC c 3),
  .inl (5, fun c => 1890 + iC c 4),
  .inl (5, fun c => 1890 + iC c 5),
  .inr (.inl (0, [.inl 1892, .inr 100, .inr 101, .inr 102, .inr 103, .inr 104, .inr 105, .inr 106, .inr 107])),
  .inl (40, fun k => 1890 + iK k 0),
  .inl (40, fun k => 1890 + iK k 1),
  .inl (40, fun k => 1890 + iK k 2),
  .inl (40, fun k => 1890 + iK k 3),
  .inl (40, fun k => 1890 + iK k 4),
  .inl (40, fun k => 1890 + iK k 5),
  .inl (40, fun k => 1890 + iK k 6),
  .inl (40, fun k => 1890 + iK k 7),
  .inr (.inl (3, [.inl 2268, .inr 109, .inr 110, .inr 117])),
  .inl (24, fun h => 2268 + (4 + h)),
  .inr (.inl (1, [.inl 2269, .inl 2271, .inr 111, .inr 112, .inr 113, .inr 114, .inr 115, .inr 116])),
  .inl (5, fun c => 2268 + iC c 0),
  .inl (5, fun c => 2268 + iC c 1),
  .inl (5, fun c => 2268 + iC c 2),
  .inl (5, fun c => 2268 + iC c 3),
  .inl (5, fun c => 2268 + iC c 4),
  .inl (5, fun c => 2268 + iC c 5),
  .inr (.inl (0, [.inl 2270, .inr 118, .inr 119, .inr 120, .inr 121, .inr 122, .inr 123, .inr 124, .inr 125])),
  .inl (40, fun k => 2268 + iK k 0),
  .inl (40, fun k => 2268 + iK k 1),
  .inl (40, fun k => 2268 + iK k 2),
  .inl (40, fun k => 2268 + iK k 3),
  .inl (40, fun k => 2268 + iK k 4),
  .inl (40, fun k => 2268 + iK k 5),
  .inl (40, fun k => 2268 + iK k 6),
  .inl (40, fun k => 2268 + iK k 7),
  .inr (.inl (4, [.inr 0, .inr 18, .inr 127])),
  .inr (.inl (2, [.inl 2646, .inl 2647, .inr 128])),
  .inr (.inr (.inl (5, fun k => 36 + 18 * k)))]
theorem ok_LC : gl_ok LC := gl_ok_of (ow := fun i => if i < 2646 then ((owH (i % 378)).1 + 18 * (i / 378), (owH (i % 378)).2) else (127, i - 2646)) (by decide +kernel)
/-- the law's rows: g, w, e, c, r -/
def LA : List gl_Ce := [.inl (4, fun i => i), .inl (24, fun h => 4 + h), .inl (30, fun i => 28 + i), .inr (.inr (.inr (40, fun k => 100 + 2 * k))), .inr (.inr (.inr (40, fun k => 200 + 2 * k)))]
def owA (i : Nat) : Nat × Nat := if i < 4 then (0, i) else if i < 28 then (1, i - 4) else if i < 58 then (2, i - 28) else if i < 200 then (3, i - 100) else (4, i - 200)
theorem ok_LA : gl_ok LA := gl_ok_of (ow := owA) (by decide +kernel)
/-- a GoalLifts, and behind it the law's rows, their numbers from 3000 on -/
def LL : List gl_Ce := [.inr (.inl (3, [.inl 0, .inr 1, .inr 2, .inr 9])),
  .inl (24, fun h => (4 + h)),
  .inr (.inl (1, [.inl 1, .inl 3, .inr 3, .inr 4, .inr 5, .inr 6, .inr 7, .inr 8])),
  .inl (5, fun c => iC c 0),
  .inl (5, fun c => iC c 1),
  .inl (5, fun c => iC c 2),
  .inl (5, fun c => iC c 3),
  .inl (5, fun c => iC c 4),
  .inl (5, fun c => iC c 5),
  .inr (.inl (0, [.inl 2, .inr 10, .inr 11, .inr 12, .inr 13, .inr 14, .inr 15, .inr 16, .inr 17])),
  .inl (40, fun k => iK k 0),
  .inl (40, fun k => iK k 1),
  .inl (40, fun k => iK k 2),
  .inl (40, fun k => iK k 3),
  .inl (40, fun k => iK k 4),
  .inl (40, fun k => iK k 5),
  .inl (40, fun k => iK k 6),
  .inl (40, fun k => iK k 7),
  .inr (.inl (3, [.inl 378, .inr 19, .inr 20, .inr 27])),
  .inl (24, fun h => 378 + (4 + h)),
  .inr (.inl (1, [.inl 379, .inl 381, .inr 21, .inr 22, .inr 23, .inr 24, .inr 25, .inr 26])),
  .inl (5, fun c => 378 + iC c 0),
  .inl (5, fun c => 378 + iC c 1),
  .inl (5, fun c => 378 + iC c 2),
  .inl (5, fun c => 378 + iC c 3),
  .inl (5, fun c => 378 + iC c 4),
  .inl (5, fun c => 378 + iC c 5),
  .inr (.inl (0, [.inl 380, .inr 28, .inr 29, .inr 30, .inr 31, .inr 32, .inr 33, .inr 34, .inr 35])),
  .inl (40, fun k => 378 + iK k 0),
  .inl (40, fun k => 378 + iK k 1),
  .inl (40, fun k => 378 + iK k 2),
  .inl (40, fun k => 378 + iK k 3),
  .inl (40, fun k => 378 + iK k 4),
  .inl (40, fun k => 378 + iK k 5),
  .inl (40, fun k => 378 + iK k 6),
  .inl (40, fun k => 378 + iK k 7),
  .inr (.inl (3, [.inl 756, .inr 37, .inr 38, .inr 45])),
  .inl (24, fun h => 756 + (4 + h)),
  .inr (.inl (1, [.inl 757, .inl 759, .inr 39, .inr 40, .inr 41, .inr 42, .inr 43, .inr 44])),
  .inl (5, fun c => 756 + iC c 0),
  .inl (5, fun c => 756 + iC c 1),
  .inl (5, fun c => 756 + iC c 2),
  .inl (5, fun c => 756 + iC c 3),
  .inl (5, fun c => 756 + iC c 4),
  .inl (5, fun c => 756 + iC c 5),
  .inr (.inl (0, [.inl 758, .inr 46, .inr 47, .inr 48, .inr 49, .inr 50, .inr 51, .inr 52, .inr 53])),
  .inl (40, fun k => 756 + iK k 0),
  .inl (40, fun k => 756 + iK k 1),
  .inl (40, fun k => 756 + iK k 2),
  .inl (40, fun k => 756 + iK k 3),
  .inl (40, fun k => 756 + iK k 4),
  .inl (40, fun k => 756 + iK k 5),
  .inl (40, fun k => 756 + iK k 6),
  .inl (40, fun k => 756 + iK k 7),
  .inr (.inl (3, [.inl 1134, .inr 55, .inr 56, .inr 63])),
  .inl (24, fun h => 1134 + (4 + h)),
  .inr (.inl (1, [.inl 1135, .inl 1137, .inr 57, .inr 58, .inr 59, .inr 60, .inr 61, .inr 62])),
  .inl (5, fun c => 1134 + iC c 0),
  .inl (5, fun c => 1134 + iC c 1),
  .inl (5, fun c => 1134 + iC c 2),
  .inl (5, fun c => 1134 + iC c 3),
  .inl (5, fun c => 1134 + iC c 4),
  .inl (5, fun c => 1134 + iC c 5),
  .inr (.inl (0, [.inl 1136, .inr 64, .inr 65, .inr 66, .inr 67, .inr 68, .inr 69, .inr 70, .inr 71])),
  .inl (40, fun k => 1134 + iK k 0),
  .inl (40, fun k => 1134 + iK k 1),
  .inl (40, fun k => 1134 + iK k 2),
  .inl (40, fun k => 1134 + iK k 3),
  .inl (40, fun k => 1134 + iK k 4),
  .inl (40, fun k => 1134 + iK k 5),
  .inl (40, fun k => 1134 + iK k 6),
  .inl (40, fun k => 1134 + iK k 7),
  .inr (.inl (3, [.inl 1512, .inr 73, .inr 74, .inr 81])),
  .inl (24, fun h => 1512 + (4 + h)),
  .inr (.inl (1, [.inl 1513, .inl 1515, .inr 75, .inr 76, .inr 77, .inr 78, .inr 79, .inr 80])),
  .inl (5, fun c => 1512 + iC c 0),
  .inl (5, fun c => 1512 + iC c 1),
  .inl (5, fun c => 1512 + iC c 2),
  .inl (5, fun c => 1512 + iC c 3),
  .inl (5, fun c => 1512 + iC c 4),
  .inl (5, fun c => 1512 + iC c 5),
  .inr (.inl (0, [.inl 1514, .inr 82, .inr 83, .inr 84, .inr 85, .inr 86, .inr 87, .inr 88, .inr 89])),
  .inl (40, fun k => 1512 + iK k 0),
  .inl (40, fun k => 1512 + iK k 1),
  .inl (40, fun k => 1512 + iK k 2),
  .inl (40, fun k => 1512 + iK k 3),
  .inl (40, fun k => 1512 + iK k 4),
  .inl (40, fun k => 1512 + iK k 5),
  .inl (40, fun k => 1512 + iK k 6),
  .inl (40, fun k => 1512 + iK k 7),
  .inr (.inl (3, [.inl 1890, .inr 91, .inr 92, .inr 99])),
  .inl (24, fun h => 1890 + (4 + h)),
  .inr (.inl (1, [.inl 1891, .inl 1893, .inr 93, .inr 94, .inr 95, .inr 96, .inr 97, .inr 98])),
  .inl (5, fun c => 1890 + iC c 0),
  .inl (5, fun c => 1890 + iC c 1),
  .inl (5, fun c => 1890 + iC c 2),
  .inl (5, fun c => 1890 + iC c 3),
  .inl (5, fun c => 1890 + iC c 4),
  .inl (5, fun c => 1890 + iC c 5),
  .inr (.inl (0, [.inl 1892, .inr 100, .inr 101, .inr 102, .inr 103, .inr 104, .inr 105, .inr 106, .inr 107])),
  .inl (40, fun k => 1890 + iK k 0),
  .inl (40, fun k => 1890 + iK k 1),
  .inl (40, fun k => 1890 + iK k 2),
  .inl (40, fun k => 1890 + iK k 3),
  .inl (40, fun k => 1890 + iK k 4),
  .inl (40, fun k => 1890 + iK k 5),
  .inl (40, fun k => 1890 + iK k 6),
  .inl (40, fun k => 1890 + iK k 7),
  .inr (.inl (3, [.inl 2268, .inr 109, .inr 110, .inr 117])),
  .inl (24, fun h => 2268 + (4 + h)),
  .inr (.inl (1, [.inl 2269, .inl 2271, .inr 111, .inr 112, .inr 113, .inr 114, .inr 115, .inr 116])),
  .inl (5, fun c => 2268 + iC c 0),
  .inl (5, fun c => 2268 + iC c 1),
  .inl (5, fun c => 2268 + iC c 2),
  .inl (5, fun c => 2268 + iC c 3),
  .inl (5, fun c => 2268 + iC c 4),
  .inl (5, fun c => 2268 + iC c 5),
  .inr (.inl (0, [.inl 2270, .inr 118, .inr 119, .inr 120, .inr 121, .inr 122, .inr 123, .inr 124, .inr 125])),
  .inl (40, fun k => 2268 + iK k 0),
  .inl (40, fun k => 2268 + iK k 1),
  .inl (40, fun k => 2268 + iK k 2),
  .inl (40, fun k => 2268 + iK k 3),
  .inl (40, fun k => 2268 + iK k 4),
  .inl (40, fun k => 2268 + iK k 5),
  .inl (40, fun k => 2268 + iK k 6),
  .inl (40, fun k => 2268 + iK k 7),
  .inr (.inl (4, [.inr 0, .inr 18, .inr 127])),
  .inr (.inl (2, [.inl 2646, .inl 2647, .inr 128])),
  .inr (.inr (.inl (5, fun k => 36 + 18 * k))),
  .inl (4, fun i => 3000 + i),
  .inl (24, fun h => 3000 + (4 + h)),
  .inl (30, fun i => 3000 + (28 + i)),
  .inr (.inr (.inr (40, fun k => 3000 + (100 + 2 * k)))),
  .inr (.inr (.inr (40, fun k => 3000 + (200 + 2 * k))))]
theorem ok_LL : gl_ok LL := gl_ok_of (ow := fun i => if i < 2646 then ((owH (i % 378)).1 + 18 * (i / 378), (owH (i % 378)).2) else if i < 3000 then (127, i - 2646) else ((owA (i - 3000)).1 + 129, (owA (i - 3000)).2)) (by decide +kernel)
abbrev rmX4_addCar : Room := { frames := 4, cells := 0, slots := 0, locals := 94 }
theorem hdX4_addCar : gl_hd yX4_addCar RX4 3 := ⟨rfl, by decide +kernel, by decide +kernel, by decide +kernel⟩
abbrev rmX4_setAwake : Room := { frames := 4, cells := 0, slots := 0, locals := 94 }
theorem hdX4_setAwake : gl_hd yX4_setAwake RX4 2 := ⟨rfl, by decide +kernel, by decide +kernel, by decide +kernel⟩
abbrev rmX4_hold : Room := { frames := 4, cells := 0, slots := 0, locals := 94 }
theorem hdX4_hold : gl_hd yX4_hold RX4 2 := ⟨rfl, by decide +kernel, by decide +kernel, by decide +kernel⟩
abbrev rmX4_fail : Room := { frames := 4, cells := 0, slots := 0, locals := 94 }
theorem hdX4_fail : gl_hd yX4_fail RX4 1 := ⟨rfl, by decide +kernel, by decide +kernel, by decide +kernel⟩
abbrev rmX4_repair : Room := { frames := 4, cells := 0, slots := 0, locals := 94 }
theorem hdX4_repair : gl_hd yX4_repair RX4 1 := ⟨rfl, by decide +kernel, by decide +kernel, by decide +kernel⟩
abbrev rmX4_call : Room := { frames := 4, cells := 0, slots := 0, locals := 96 }
theorem hdX4_call : gl_hd yX4_call RX4 2 := ⟨rfl, by decide +kernel, by decide +kernel, by decide +kernel⟩
abbrev rmX4_pass : Room := { frames := 5, cells := 0, slots := 0, locals := 117 }
theorem hdX4_pass : gl_hd yX4_pass RX4 1 := ⟨rfl, by decide +kernel, by decide +kernel, by decide +kernel⟩
abbrev rmX4_count : Room := { frames := 4, cells := 0, slots := 0, locals := 87 }
theorem hdX4_count : gl_hd yX4_count RX4 1 := ⟨rfl, by decide +kernel, by decide +kernel, by decide +kernel⟩
abbrev rmX4_car : Room := { frames := 3, cells := 0, slots := 0, locals := 70 }
theorem hdX4_car : gl_hd yX4_car RX4 2 := ⟨rfl, by decide +kernel, by decide +kernel, by decide +kernel⟩
abbrev rmX4_caller : Room := { frames := 1, cells := 0, slots := 0, locals := 21 }
theorem hdX4_caller : gl_hd yX4_caller RX4 2 := ⟨rfl, by decide +kernel, by decide +kernel, by decide +kernel⟩
abbrev rmX4_group : Room := { frames := 4, cells := 0, slots := 0, locals := 88 }
theorem hdX4_group : gl_hd yX4_group RX4 2 := ⟨rfl, by decide +kernel, by decide +kernel, by decide +kernel⟩
abbrev rmX4_isFloor : Room := { frames := 0, cells := 0, slots := 0, locals := 0 }
theorem hdX4_isFloor : gl_hd yX4_isFloor RX4 1 := ⟨rfl, by decide +kernel, by decide +kernel, by decide +kernel⟩
abbrev rmX4_isWay : Room := { frames := 1, cells := 0, slots := 0, locals := 20 }
theorem hdX4_isWay : gl_hd yX4_isWay RX4 2 := ⟨rfl, by decide +kernel, by decide +kernel, by decide +kernel⟩
abbrev rmX0_copyFrom : Room := { frames := 1, cells := 0, slots := 0, locals := 30 }
theorem hdX0_copyFrom : gl_hd yX0_copyFrom RX0 1 := ⟨rfl, by decide +kernel, by decide +kernel, by decide +kernel⟩
abbrev rmX0_has : Room := { frames := 0, cells := 0, slots := 0, locals := 0 }
theorem hdX0_has : gl_hd yX0_has RX0 1 := ⟨rfl, by decide +kernel, by decide +kernel, by decide +kernel⟩
abbrev rmX0_add : Room := { frames := 0, cells := 0, slots := 0, locals := 0 }
theorem hdX0_add : gl_hd yX0_add RX0 3 := ⟨rfl, by decide +kernel, by decide +kernel, by decide +kernel⟩
abbrev rmX0_give : Room := { frames := 1, cells := 0, slots := 0, locals := 21 }
theorem hdX0_give : gl_hd yX0_give RX0 2 := ⟨rfl, by decide +kernel, by decide +kernel, by decide +kernel⟩
abbrev rmX0_rides : Room := { frames := 0, cells := 0, slots := 0, locals := 0 }
theorem hdX0_rides : gl_hd yX0_rides RX0 2 := ⟨rfl, by decide +kernel, by decide +kernel, by decide +kernel⟩
abbrev rmX0_waitsFor : Room := { frames := 0, cells := 0, slots := 0, locals := 0 }
theorem hdX0_waitsFor : gl_hd yX0_waitsFor RX0 2 := ⟨rfl, by decide +kernel, by decide +kernel, by decide +kernel⟩
abbrev rmX0_numberIn : Room := { frames := 0, cells := 0, slots := 0, locals := 0 }
theorem hdX0_numberIn : gl_hd yX0_numberIn RX0 1 := ⟨rfl, by decide +kernel, by decide +kernel, by decide +kernel⟩
abbrev rmX0_numberOf : Room := { frames := 0, cells := 0, slots := 0, locals := 0 }
theorem hdX0_numberOf : gl_hd yX0_numberOf RX0 2 := ⟨rfl, by decide +kernel, by decide +kernel, by decide +kernel⟩
abbrev rmX0_numberWith : Room := { frames := 1, cells := 0, slots := 0, locals := 24 }
theorem hdX0_numberWith : gl_hd yX0_numberWith RX0 1 := ⟨rfl, by decide +kernel, by decide +kernel, by decide +kernel⟩
abbrev rmX0_stopsOf : Room := { frames := 1, cells := 0, slots := 0, locals := 22 }
theorem hdX0_stopsOf : gl_hd yX0_stopsOf RX0 1 := ⟨rfl, by decide +kernel, by decide +kernel, by decide +kernel⟩
abbrev rmX0_aimOf : Room := { frames := 2, cells := 0, slots := 0, locals := 45 }
theorem hdX0_aimOf : gl_hd yX0_aimOf RX0 2 := ⟨rfl, by decide +kernel, by decide +kernel, by decide +kernel⟩
abbrev rmX0_isNearer : Room := { frames := 1, cells := 0, slots := 0, locals := 21 }
theorem hdX0_isNearer : gl_hd yX0_isNearer RX0 3 := ⟨rfl, by decide +kernel, by decide +kernel, by decide +kernel⟩
abbrev rmX0_letOut : Room := { frames := 1, cells := 0, slots := 0, locals := 22 }
theorem hdX0_letOut : gl_hd yX0_letOut RX0 3 := ⟨rfl, by decide +kernel, by decide +kernel, by decide +kernel⟩
abbrev rmX0_takeIn : Room := { frames := 1, cells := 0, slots := 0, locals := 24 }
theorem hdX0_takeIn : gl_hd yX0_takeIn RX0 4 := ⟨rfl, by decide +kernel, by decide +kernel, by decide +kernel⟩
abbrev rmX0_loseCar : Room := { frames := 1, cells := 0, slots := 0, locals := 22 }
theorem hdX0_loseCar : gl_hd yX0_loseCar RX0 3 := ⟨rfl, by decide +kernel, by decide +kernel, by decide +kernel⟩
abbrev rmX0_isInGroup : Room := { frames := 0, cells := 0, slots := 0, locals := 0 }
theorem hdX0_isInGroup : gl_hd yX0_isInGroup RX0 1 := ⟨rfl, by decide +kernel, by decide +kernel, by decide +kernel⟩
abbrev rmX0_sameGroup : Room := { frames := 1, cells := 0, slots := 0, locals := 21 }
theorem hdX0_sameGroup : gl_hd yX0_sameGroup RX0 2 := ⟨rfl, by decide +kernel, by decide +kernel, by decide +kernel⟩
abbrev rmX0_isFirstOfGroup : Room := { frames := 2, cells := 0, slots := 0, locals := 43 }
theorem hdX0_isFirstOfGroup : gl_hd yX0_isFirstOfGroup RX0 1 := ⟨rfl, by decide +kernel, by decide +kernel, by decide +kernel⟩
abbrev rmX0_numberOfGroups : Room := { frames := 3, cells := 0, slots := 0, locals := 65 }
theorem hdX0_numberOfGroups : gl_hd yX0_numberOfGroups RX0 0 := ⟨rfl, by decide +kernel, by decide +kernel, by decide +kernel⟩
abbrev rmX0_firstOfGroup : Room := { frames := 3, cells := 0, slots := 0, locals := 65 }
theorem hdX0_firstOfGroup : gl_hd yX0_firstOfGroup RX0 1 := ⟨rfl, by decide +kernel, by decide +kernel, by decide +kernel⟩
abbrev rmX0_sizeOfGroup : Room := { frames := 2, cells := 0, slots := 0, locals := 43 }
theorem hdX0_sizeOfGroup : gl_hd yX0_sizeOfGroup RX0 1 := ⟨rfl, by decide +kernel, by decide +kernel, by decide +kernel⟩
abbrev rmX1_copyFrom : Room := { frames := 1, cells := 0, slots := 0, locals := 30 }
theorem hdX1_copyFrom : gl_hd yX1_copyFrom RX1 1 := ⟨rfl, by decide +kernel, by decide +kernel, by decide +kernel⟩
abbrev rmX1_has : Room := { frames := 0, cells := 0, slots := 0, locals := 0 }
theorem hdX1_has : gl_hd yX1_has RX1 1 := ⟨rfl, by decide +kernel, by decide +kernel, by decide +kernel⟩
abbrev rmX1_add : Room := { frames := 0, cells := 0, slots := 0, locals := 0 }
theorem hdX1_add : gl_hd yX1_add RX1 3 := ⟨rfl, by decide +kernel, by decide +kernel, by decide +kernel⟩
abbrev rmX1_serves : Room := { frames := 0, cells := 0, slots := 0, locals := 0 }
theorem hdX1_serves : gl_hd yX1_serves RX1 2 := ⟨rfl, by decide +kernel, by decide +kernel, by decide +kernel⟩
abbrev rmX1_travelTowards : Room := { frames := 0, cells := 0, slots := 0, locals := 0 }
theorem hdX1_travelTowards : gl_hd yX1_travelTowards RX1 2 := ⟨rfl, by decide +kernel, by decide +kernel, by decide +kernel⟩
abbrev rmX1_numberIn : Room := { frames := 0, cells := 0, slots := 0, locals := 0 }
theorem hdX1_numberIn : gl_hd yX1_numberIn RX1 1 := ⟨rfl, by decide +kernel, by decide +kernel, by decide +kernel⟩
abbrev rmX1_travelledByAll : Room := { frames := 0, cells := 0, slots := 0, locals := 0 }
theorem hdX1_travelledByAll : gl_hd yX1_travelledByAll RX1 0 := ⟨rfl, by decide +kernel, by decide +kernel, by decide +kernel⟩
abbrev rmX2_keep : Room := { frames := 3, cells := 0, slots := 0, locals := 72 }
theorem hdX2_keep : gl_hd yX2_keep RX2 1 := ⟨rfl, by decide +kernel, by decide +kernel, by decide +kernel⟩
abbrev rmX3_copyFrom : Room := { frames := 2, cells := 0, slots := 0, locals := 51 }
theorem hdX3_copyFrom : gl_hd yX3_copyFrom RX3 1 := ⟨rfl, by decide +kernel, by decide +kernel, by decide +kernel⟩
abbrev rmX3_hour : Room := { frames := 0, cells := 0, slots := 0, locals := 0 }
theorem hdX3_hour : gl_hd yX3_hour RX3 0 := ⟨rfl, by decide +kernel, by decide +kernel, by decide +kernel⟩
abbrev rmX3_isAwake : Room := { frames := 1, cells := 0, slots := 0, locals := 20 }
theorem hdX3_isAwake : gl_hd yX3_isAwake RX3 1 := ⟨rfl, by decide +kernel, by decide +kernel, by decide +kernel⟩
abbrev rmX3_canBeGiven : Room := { frames := 2, cells := 0, slots := 0, locals := 41 }
theorem hdX3_canBeGiven : gl_hd yX3_canBeGiven RX3 3 := ⟨rfl, by decide +kernel, by decide +kernel, by decide +kernel⟩
abbrev rmX3_costOf : Room := { frames := 2, cells := 0, slots := 0, locals := 45 }
theorem hdX3_costOf : gl_hd yX3_costOf RX3 3 := ⟨rfl, by decide +kernel, by decide +kernel, by decide +kernel⟩
abbrev rmX3_bestCar : Room := { frames := 3, cells := 0, slots := 0, locals := 70 }
theorem hdX3_bestCar : gl_hd yX3_bestCar RX3 2 := ⟨rfl, by decide +kernel, by decide +kernel, by decide +kernel⟩
abbrev rmX3_oneTick : Room := { frames := 4, cells := 0, slots := 0, locals := 96 }
theorem hdX3_oneTick : gl_hd yX3_oneTick RX3 0 := ⟨rfl, by decide +kernel, by decide +kernel, by decide +kernel⟩
abbrev rmX3_stopOrTravel : Room := { frames := 3, cells := 0, slots := 0, locals := 70 }
theorem hdX3_stopOrTravel : gl_hd yX3_stopOrTravel RX3 1 := ⟨rfl, by decide +kernel, by decide +kernel, by decide +kernel⟩
abbrev rmX3_breakCar : Room := { frames := 2, cells := 0, slots := 0, locals := 47 }
theorem hdX3_breakCar : gl_hd yX3_breakCar RX3 1 := ⟨rfl, by decide +kernel, by decide +kernel, by decide +kernel⟩
abbrev rmL_cell : Room := { frames := 0, cells := 0, slots := 0, locals := 0 }
theorem hdL_cell : gl_hd yL_cell RL 2 := ⟨rfl, by decide +kernel, by decide +kernel, by decide +kernel⟩
abbrev rmL_low : Room := { frames := 0, cells := 0, slots := 0, locals := 0 }
theorem hdL_low : gl_hd yL_low RL 2 := ⟨rfl, by decide +kernel, by decide +kernel, by decide +kernel⟩
abbrev rmL_is : Room := { frames := 0, cells := 0, slots := 0, locals := 0 }
theorem hdL_is : gl_hd yL_is RL 1 := ⟨rfl, by decide +kernel, by decide +kernel, by decide +kernel⟩
abbrev rmL_by : Room := { frames := 0, cells := 0, slots := 0, locals := 0 }
theorem hdL_by : gl_hd yL_by RL 1 := ⟨rfl, by decide +kernel, by decide +kernel, by decide +kernel⟩
abbrev rmL_floor : Room := { frames := 0, cells := 0, slots := 0, locals := 0 }
theorem hdL_floor : gl_hd yL_floor RL 1 := ⟨rfl, by decide +kernel, by decide +kernel, by decide +kernel⟩
abbrev rmL_goal : Room := { frames := 0, cells := 0, slots := 0, locals := 0 }
theorem hdL_goal : gl_hd yL_goal RL 1 := ⟨rfl, by decide +kernel, by decide +kernel, by decide +kernel⟩
abbrev rmL_far : Room := { frames := 0, cells := 0, slots := 0, locals := 0 }
theorem hdL_far : gl_hd yL_far RL 2 := ⟨rfl, by decide +kernel, by decide +kernel, by decide +kernel⟩
abbrev rmL_those : Room := { frames := 1, cells := 0, slots := 0, locals := 21 }
theorem hdL_those : gl_hd yL_those RL 4 := ⟨rfl, by decide +kernel, by decide +kernel, by decide +kernel⟩
abbrev rmL_stops : Room := { frames := 1, cells := 0, slots := 0, locals := 21 }
theorem hdL_stops : gl_hd yL_stops RL 4 := ⟨rfl, by decide +kernel, by decide +kernel, by decide +kernel⟩
abbrev rmL_cost : Room := { frames := 2, cells := 0, slots := 0, locals := 48 }
theorem hdL_cost : gl_hd yL_cost RL 7 := ⟨rfl, by decide +kernel, by decide +kernel, by decide +kernel⟩
abbrev rmL_which : Room := { frames := 3, cells := 0, slots := 0, locals := 77 }
theorem hdL_which : gl_hd yL_which RL 6 := ⟨rfl, by decide +kernel, by decide +kernel, by decide +kernel⟩
abbrev rmL_gives : Room := { frames := 4, cells := 0, slots := 0, locals := 106 }
theorem hdL_gives : gl_hd yL_gives RL 5 := ⟨rfl, by decide +kernel, by decide +kernel, by decide +kernel⟩
abbrev rmL_aim : Room := { frames := 1, cells := 0, slots := 0, locals := 21 }
theorem hdL_aim : gl_hd yL_aim RL 4 := ⟨rfl, by decide +kernel, by decide +kernel, by decide +kernel⟩
abbrev rmL_goes : Room := { frames := 2, cells := 0, slots := 0, locals := 49 }
theorem hdL_goes : gl_hd yL_goes RL 5 := ⟨rfl, by decide +kernel, by decide +kernel, by decide +kernel⟩
abbrev rmL_tick : Room := { frames := 5, cells := 0, slots := 0, locals := 131 }
theorem hdL_tick : gl_hd yL_tick RL 5 := ⟨rfl, by decide +kernel, by decide +kernel, by decide +kernel⟩
abbrev rmL_fails : Room := { frames := 1, cells := 0, slots := 0, locals := 21 }
theorem hdL_fails : gl_hd yL_fails RL 5 := ⟨rfl, by decide +kernel, by decide +kernel, by decide +kernel⟩
abbrev rmL_cars : Room := { frames := 5, cells := 0, slots := 0, locals := 118 }
theorem hdL_cars : gl_hd yL_cars RL 8 := ⟨rfl, by decide +kernel, by decide +kernel, by decide +kernel⟩
abbrev rmL_acts : Room := { frames := 6, cells := 0, slots := 0, locals := 156 }
theorem hdL_acts : gl_hd yL_acts RL 7 := ⟨rfl, by decide +kernel, by decide +kernel, by decide +kernel⟩
abbrev rmL_isSo : Room := { frames := 5, cells := 0, slots := 0, locals := 111 }
theorem hdL_isSo : gl_hd yL_isSo RL 6 := ⟨rfl, by decide +kernel, by decide +kernel, by decide +kernel⟩
abbrev rmJ6_bitCount_0f7a4 : Room := { frames := 0, cells := 0, slots := 0, locals := 0 }
theorem hdJ6_bitCount_0f7a4 : gl_hd yJ6_bitCount_0f7a4 RJ6 1 := ⟨rfl, by decide +kernel, by decide +kernel, by decide +kernel⟩
abbrev rmJ9_floorMod_7cf53 : Room := { frames := 0, cells := 0, slots := 0, locals := 0 }
theorem hdJ9_floorMod_7cf53 : gl_hd yJ9_floorMod_7cf53 RJ9 2 := ⟨rfl, by decide +kernel, by decide +kernel, by decide +kernel⟩
