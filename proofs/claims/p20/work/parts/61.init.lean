def LCars : List gl_Ce := [.inr (.inl (1, [.inl 1, .inl 3, .inr 1, .inr 2, .inr 3, .inr 4, .inr 5, .inr 6])),
  .inl (5, fun c => iC c 0),
  .inl (5, fun c => iC c 1),
  .inl (5, fun c => iC c 2),
  .inl (5, fun c => iC c 3),
  .inl (5, fun c => iC c 4),
  .inl (5, fun c => iC c 5)]
def LCall : List gl_Ce := [.inr (.inl (0, [.inl 2, .inr 1, .inr 2, .inr 3, .inr 4, .inr 5, .inr 6, .inr 7, .inr 8])),
  .inl (40, fun k => iK k 0),
  .inl (40, fun k => iK k 1),
  .inl (40, fun k => iK k 2),
  .inl (40, fun k => iK k 3),
  .inl (40, fun k => iK k 4),
  .inl (40, fun k => iK k 5),
  .inl (40, fun k => iK k 6),
  .inl (40, fun k => iK k 7)]
def LHist : List gl_Ce := [.inr (.inl (2, [.inl 2646, .inl 2647, .inr 1])),
  .inr (.inr (.inl (5, fun k => 2 + 18 * k))),
  .inr (.inl (3, [.inl 756, .inr 3, .inr 4, .inr 11])),
  .inl (24, fun h => 756 + (4 + h)),
  .inr (.inl (1, [.inl 757, .inl 759, .inr 5, .inr 6, .inr 7, .inr 8, .inr 9, .inr 10])),
  .inl (5, fun c => 756 + iC c 0),
  .inl (5, fun c => 756 + iC c 1),
  .inl (5, fun c => 756 + iC c 2),
  .inl (5, fun c => 756 + iC c 3),
  .inl (5, fun c => 756 + iC c 4),
  .inl (5, fun c => 756 + iC c 5),
  .inr (.inl (0, [.inl 758, .inr 12, .inr 13, .inr 14, .inr 15, .inr 16, .inr 17, .inr 18, .inr 19])),
  .inl (40, fun k => 756 + iK k 0),
  .inl (40, fun k => 756 + iK k 1),
  .inl (40, fun k => 756 + iK k 2),
  .inl (40, fun k => 756 + iK k 3),
  .inl (40, fun k => 756 + iK k 4),
  .inl (40, fun k => 756 + iK k 5),
  .inl (40, fun k => 756 + iK k 6),
  .inl (40, fun k => 756 + iK k 7),
  .inr (.inl (3, [.inl 1134, .inr 21, .inr 22, .inr 29])),
  .inl (24, fun h => 1134 + (4 + h)),
  .inr (.inl (1, [.inl 1135, .inl 1137, .inr 23, .inr 24, .inr 25, .inr 26, .inr 27, .inr 28])),
  .inl (5, fun c => 1134 + iC c 0),
  .inl (5, fun c => 1134 + iC c 1),
  .inl (5, fun c => 1134 + iC c 2),
  .inl (5, fun c => 1134 + iC c 3),
  .inl (5, fun c => 1134 + iC c 4),
  .inl (5, fun c => 1134 + iC c 5),
  .inr (.inl (0, [.inl 1136, .inr 30, .inr 31, .inr 32, .inr 33, .inr 34, .inr 35, .inr 36, .inr 37])),
  .inl (40, fun k => 1134 + iK k 0),
  .inl (40, fun k => 1134 + iK k 1),
  .inl (40, fun k => 1134 + iK k 2),
  .inl (40, fun k => 1134 + iK k 3),
  .inl (40, fun k => 1134 + iK k 4),
  .inl (40, fun k => 1134 + iK k 5),
  .inl (40, fun k => 1134 + iK k 6),
  .inl (40, fun k => 1134 + iK k 7),
  .inr (.inl (3, [.inl 1512, .inr 39, .inr 40, .inr 47])),
  .inl (24, fun h => 1512 + (4 + h)),
  .inr (.inl (1, [.inl 1513, .inl 1515, .inr 41, .inr 42, .inr 43, .inr 44, .inr 45, .inr 46])),
  .inl (5, fun c => 1512 + iC c 0),
  .inl (5, fun c => 1512 + iC c 1),
  .inl (5, fun c => 1512 + iC c 2),
  .inl (5, fun c => 1512 + iC c 3),
  .inl (5, fun c => 1512 + iC c 4),
  .inl (5, fun c => 1512 + iC c 5),
  .inr (.inl (0, [.inl 1514, .inr 48, .inr 49, .inr 50, .inr 51, .inr 52, .inr 53, .inr 54, .inr 55])),
  .inl (40, fun k => 1512 + iK k 0),
  .inl (40, fun k => 1512 + iK k 1),
  .inl (40, fun k => 1512 + iK k 2),
  .inl (40, fun k => 1512 + iK k 3),
  .inl (40, fun k => 1512 + iK k 4),
  .inl (40, fun k => 1512 + iK k 5),
  .inl (40, fun k => 1512 + iK k 6),
  .inl (40, fun k => 1512 + iK k 7),
  .inr (.inl (3, [.inl 1890, .inr 57, .inr 58, .inr 65])),
  .inl (24, fun h => 1890 + (4 + h)),
  .inr (.inl (1, [.inl 1891, .inl 1893, .inr 59, .inr 60, .inr 61, .inr 62, .inr 63, .inr 64])),
  .inl (5, fun c => 1890 + iC c 0),
  .inl (5, fun c => 1890 + iC c 1),
  .inl (5, fun c => 1890 + iC c 2),
  .inl (5, fun c => 1890 + iC c 3),
  .inl (5, fun c => 1890 + iC c 4),
  .inl (5, fun c => 1890 + iC c 5),
  .inr (.inl (0, [.inl 1892, .inr 66, .inr 67, .inr 68, .inr 69, .inr 70, .inr 71, .inr 72, .inr 73])),
  .inl (40, fun k => 1890 + iK k 0),
  .inl (40, fun k => 1890 + iK k 1),
  .inl (40, fun k => 1890 + iK k 2),
  .inl (40, fun k => 1890 + iK k 3),
  .inl (40, fun k => 1890 + iK k 4),
  .inl (40, fun k => 1890 + iK k 5),
  .inl (40, fun k => 1890 + iK k 6),
  .inl (40, fun k => 1890 + iK k 7),
  .inr (.inl (3, [.inl 2268, .inr 75, .inr 76, .inr 83])),
  .inl (24, fun h => 2268 + (4 + h)),
  .inr (.inl (1, [.inl 2269, .inl 2271, .inr 77, .inr 78, .inr 79, .inr 80, .inr 81, .inr 82])),
  .inl (5, fun c => 2268 + iC c 0),
  .inl (5, fun c => 2268 + iC c 1),
  .inl (5, fun c => 2268 + iC c 2),
  .inl (5, fun c => 2268 + iC c 3),
  .inl (5, fun c => 2268 + iC c 4),
  .inl (5, fun c => 2268 + iC c 5),
  .inr (.inl (0, [.inl 2270, .inr 84, .inr 85, .inr 86, .inr 87, .inr 88, .inr 89, .inr 90, .inr 91])),
  .inl (40, fun k => 2268 + iK k 0),
  .inl (40, fun k => 2268 + iK k 1),
  .inl (40, fun k => 2268 + iK k 2),
  .inl (40, fun k => 2268 + iK k 3),
  .inl (40, fun k => 2268 + iK k 4),
  .inl (40, fun k => 2268 + iK k 5),
  .inl (40, fun k => 2268 + iK k 6),
  .inl (40, fun k => 2268 + iK k 7)]
def LG : List gl_Ce := [.inr (.inl (4, [.inr 1, .inr 19, .inr 37])),
  .inr (.inl (3, [.inl 0, .inr 2, .inr 3, .inr 10])),
  .inl (24, fun h => (4 + h)),
  .inr (.inl (1, [.inl 1, .inl 3, .inr 4, .inr 5, .inr 6, .inr 7, .inr 8, .inr 9])),
  .inl (5, fun c => iC c 0),
  .inl (5, fun c => iC c 1),
  .inl (5, fun c => iC c 2),
  .inl (5, fun c => iC c 3),
  .inl (5, fun c => iC c 4),
  .inl (5, fun c => iC c 5),
  .inr (.inl (0, [.inl 2, .inr 11, .inr 12, .inr 13, .inr 14, .inr 15, .inr 16, .inr 17, .inr 18])),
  .inl (40, fun k => iK k 0),
  .inl (40, fun k => iK k 1),
  .inl (40, fun k => iK k 2),
  .inl (40, fun k => iK k 3),
  .inl (40, fun k => iK k 4),
  .inl (40, fun k => iK k 5),
  .inl (40, fun k => iK k 6),
  .inl (40, fun k => iK k 7),
  .inr (.inl (3, [.inl 378, .inr 20, .inr 21, .inr 28])),
  .inl (24, fun h => 378 + (4 + h)),
  .inr (.inl (1, [.inl 379, .inl 381, .inr 22, .inr 23, .inr 24, .inr 25, .inr 26, .inr 27])),
  .inl (5, fun c => 378 + iC c 0),
  .inl (5, fun c => 378 + iC c 1),
  .inl (5, fun c => 378 + iC c 2),
  .inl (5, fun c => 378 + iC c 3),
  .inl (5, fun c => 378 + iC c 4),
  .inl (5, fun c => 378 + iC c 5),
  .inr (.inl (0, [.inl 380, .inr 29, .inr 30, .inr 31, .inr 32, .inr 33, .inr 34, .inr 35, .inr 36])),
  .inl (40, fun k => 378 + iK k 0),
  .inl (40, fun k => 378 + iK k 1),
  .inl (40, fun k => 378 + iK k 2),
  .inl (40, fun k => 378 + iK k 3),
  .inl (40, fun k => 378 + iK k 4),
  .inl (40, fun k => 378 + iK k 5),
  .inl (40, fun k => 378 + iK k 6),
  .inl (40, fun k => 378 + iK k 7),
  .inr (.inl (2, [.inl 2646, .inl 2647, .inr 38])),
  .inr (.inr (.inl (5, fun k => 39 + 18 * k))),
  .inr (.inl (3, [.inl 756, .inr 40, .inr 41, .inr 48])),
  .inl (24, fun h => 756 + (4 + h)),
  .inr (.inl (1, [.inl 757, .inl 759, .inr 42, .inr 43, .inr 44, .inr 45, .inr 46, .inr 47])),
  .inl (5, fun c => 756 + iC c 0),
  .inl (5, fun c => 756 + iC c 1),
  .inl (5, fun c => 756 + iC c 2),
  .inl (5, fun c => 756 + iC c 3),
  .inl (5, fun c => 756 + iC c 4),
  .inl (5, fun c => 756 + iC c 5),
  .inr (.inl (0, [.inl 758, .inr 49, .inr 50, .inr 51, .inr 52, .inr 53, .inr 54, .inr 55, .inr 56])),
  .inl (40, fun k => 756 + iK k 0),
  .inl (40, fun k => 756 + iK k 1),
  .inl (40, fun k => 756 + iK k 2),
  .inl (40, fun k => 756 + iK k 3),
  .inl (40, fun k => 756 + iK k 4),
  .inl (40, fun k => 756 + iK k 5),
  .inl (40, fun k => 756 + iK k 6),
  .inl (40, fun k => 756 + iK k 7),
  .inr (.inl (3, [.inl 1134, .inr 58, .inr 59, .inr 66])),
  .inl (24, fun h => 1134 + (4 + h)),
  .inr (.inl (1, [.inl 1135, .inl 1137, .inr 60, .inr 61, .inr 62, .inr 63, .inr 64, .inr 65])),
  .inl (5, fun c => 1134 + iC c 0),
  .inl (5, fun c => 1134 + iC c 1),
  .inl (5, fun c => 1134 + iC c 2),
  .inl (5, fun c => 1134 + iC c 3),
  .inl (5, fun c => 1134 + iC c 4),
  .inl (5, fun c => 1134 + iC c 5),
  .inr (.inl (0, [.inl 1136, .inr 67, .inr 68, .inr 69, .inr 70, .inr 71, .inr 72, .inr 73, .inr 74])),
  .inl (40, fun k => 1134 + iK k 0),
  .inl (40, fun k => 1134 + iK k 1),
  .inl (40, fun k => 1134 + iK k 2),
  .inl (40, fun k => 1134 + iK k 3),
  .inl (40, fun k => 1134 + iK k 4),
  .inl (40, fun k => 1134 + iK k 5),
  .inl (40, fun k => 1134 + iK k 6),
  .inl (40, fun k => 1134 + iK k 7),
  .inr (.inl (3, [.inl 1512, .inr 76, .inr 77, .inr 84])),
  .inl (24, fun h => 1512 + (4 + h)),
  .inr (.inl (1, [.inl 1513, .inl 1515, .inr 78, .inr 79, .inr 80, .inr 81, .inr 82, .inr 83])),
  .inl (5, fun c => 1512 + iC c 0),
  .inl (5, fun c => 1512 + iC c 1),
  .inl (5, fun c => 1512 + iC c 2),
  .inl (5, fun c => 1512 + iC c 3),
  .inl (5, fun c => 1512 + iC c 4),
  .inl (5, fun c => 1512 + iC c 5),
  .inr (.inl (0, [.inl 1514, .inr 85, .inr 86, .inr 87, .inr 88, .inr 89, .inr 90, .inr 91, .inr 92])),
  .inl (40, fun k => 1512 + iK k 0),
  .inl (40, fun k => 1512 + iK k 1),
  .inl (40, fun k => 1512 + iK k 2),
  .inl (40, fun k => 1512 + iK k 3),
  .inl (40, fun k => 1512 + iK k 4),
  .inl (40, fun k => 1512 + iK k 5),
  .inl (40, fun k => 1512 + iK k 6),
  .inl (40, fun k => 1512 + iK k 7),
  .inr (.inl (3, [.inl 1890, .inr 94, .inr 95, .inr 102])),
  .inl (24, fun h => 1890 + (4 + h)),
  .inr (.inl (1, [.inl 1891, .inl 1893, .inr 96, .inr 97, .inr 98, .inr 99, .inr 100, .inr 101])),
  .inl (5, fun c => 1890 + iC c 0),
  .inl (5, fun c => 1890 + iC c 1),
  .inl (5, fun c => 1890 + iC c 2),
  .inl (5, fun c => 1890 + iC c 3),
  .inl (5, fun c => 1890 + iC c 4),
  .inl (5, fun c => 1890 + iC c 5),
  .inr (.inl (0, [.inl 1892, .inr 103, .inr 104, .inr 105, .inr 106, .inr 107, .inr 108, .inr 109, .inr 110])),
  .inl (40, fun k => 1890 + iK k 0),
  .inl (40, fun k => 1890 + iK k 1),
  .inl (40, fun k => 1890 + iK k 2),
  .inl (40, fun k => 1890 + iK k 3),
  .inl (40, fun k => 1890 + iK k 4),
  .inl (40, fun k => 1890 + iK k 5),
  .inl (40, fun k => 1890 + iK k 6),
  .inl (40, fun k => 1890 + iK k 7),
  .inr (.inl (3, [.inl 2268, .inr 112, .inr 113, .inr 120])),
  .inl (24, fun h => 2268 + (4 + h)),
  .inr (.inl (1, [.inl 2269, .inl 2271, .inr 114, .inr 115, .inr 116, .inr 117, .inr 118, .inr 119])),
  .inl (5, fun c => 2268 + iC c 0),
  .inl (5, fun c => 2268 + iC c 1),
  .inl (5, fun c => 2268 + iC c 2),
  .inl (5, fun c => 2268 + iC c 3),
  .inl (5, fun c => 2268 + iC c 4),
  .inl (5, fun c => 2268 + iC c 5),
  .inr (.inl (0, [.inl 2270, .inr 121, .inr 122, .inr 123, .inr 124, .inr 125, .inr 126, .inr 127, .inr 128])),
  .inl (40, fun k => 2268 + iK k 0),
  .inl (40, fun k => 2268 + iK k 1),
  .inl (40, fun k => 2268 + iK k 2),
  .inl (40, fun k => 2268 + iK k 3),
  .inl (40, fun k => 2268 + iK k 4),
  .inl (40, fun k => 2268 + iK k 5),
  .inl (40, fun k => 2268 + iK k 6),
  .inl (40, fun k => 2268 + iK k 7)]
/-- a new house's numbers; a new GoalLifts's -/
def MH : Nat → Int32 := fun i => if 4 ≤ i ∧ i < 28 then nI 5 else 0
def MG : Nat → Int32 := fun i => if i < 2646 then MH (i % 378) else 0
theorem gk_eq {F : gl_F} {lay : List gl_Ce} {M : Nat → Int32} {W0 : va_W} (hlen : W0.length = lay.length) (h : ∀ (j : Nat) (c : gl_Ce), lay[j]? = some c → W0[j]? = some (gl_r F j, gl_e F M c)) : W0 = gl_w F lay M := by
  apply List.ext_getElem?
  intro j
  cases hc : lay[j]? with
  | none =>
    have h1 := List.getElem?_eq_none_iff.mp hc
    rw [List.getElem?_eq_none (by omega), List.getElem?_eq_none (by rw [gl_w_len]; exact h1)]
  | some c => rw [h j c hc, gl_w_at hc]
theorem gk_z {n : Nat} {f : Nat → Nat} {M : Nat → Int32} (h : ∀ i, i < n → M (f i) = 0) : (fun _ => (0 : Int32)) = (fun i => if i < n then M (f i) else 0) := by
  funext i
  by_cases hi : i < n
  · rw [if_pos hi, h i hi]
  · rw [if_neg hi]
/-- a new row of zeros, as the layout has it -/
theorem gk_za {K : gk_K} {r : Nat → Nat} {n : Nat} {f : Nat → Nat} {M : Nat → Int32} (h : ∀ i, i < n → M (f i) = 0) : (.inl (K.2.2.1, n, .inl (fun _ => 0)) : va_E) = gl_e (gk_F K r) M (.inl (n, f)) := by
  simp only [gl_e]
  rw [← gk_z h]
  rfl

abbrev rmX1_init : Room := { frames := 1, cells := 6, slots := 30, locals := 12 }
theorem hdX1_init : yX1_init.cls ≠ "java/lang/invoke/MethodHandle" ∧ yX1_init.cls ≠ "java/lang/invoke/VarHandle" ∧ (parseMethodDescriptor yX1_init.desc).map (fun d => d.parameters.length) = some 0 := ⟨by decide +kernel, by decide +kernel, by decide +kernel⟩
abbrev rmX0_init : Room := { frames := 1, cells := 8, slots := 320, locals := 12 }
theorem hdX0_init : yX0_init.cls ≠ "java/lang/invoke/MethodHandle" ∧ yX0_init.cls ≠ "java/lang/invoke/VarHandle" ∧ (parseMethodDescriptor yX0_init.desc).map (fun d => d.parameters.length) = some 0 := ⟨by decide +kernel, by decide +kernel, by decide +kernel⟩
abbrev rmX3_init : Room := { frames := 2, cells := 17, slots := 391, locals := 32 }
theorem hdX3_init : yX3_init.cls ≠ "java/lang/invoke/MethodHandle" ∧ yX3_init.cls ≠ "java/lang/invoke/VarHandle" ∧ (parseMethodDescriptor yX3_init.desc).map (fun d => d.parameters.length) = some 0 := ⟨by decide +kernel, by decide +kernel, by decide +kernel⟩
abbrev rmX2_init : Room := { frames := 3, cells := 91, slots := 1980, locals := 53 }
theorem hdX2_init : yX2_init.cls ≠ "java/lang/invoke/MethodHandle" ∧ yX2_init.cls ≠ "java/lang/invoke/VarHandle" ∧ (parseMethodDescriptor yX2_init.desc).map (fun d => d.parameters.length) = some 0 := ⟨by decide +kernel, by decide +kernel, by decide +kernel⟩
abbrev rmX4_init : Room := { frames := 4, cells := 128, slots := 2773, locals := 74 }
theorem hdX4_init : yX4_init.cls ≠ "java/lang/invoke/MethodHandle" ∧ yX4_init.cls ≠ "java/lang/invoke/VarHandle" ∧ (parseMethodDescriptor yX4_init.desc).map (fun d => d.parameters.length) = some 0 := ⟨by decide +kernel, by decide +kernel, by decide +kernel⟩
theorem pX1_init_9 : gk_ff wsX1_init RX1 9 1 2 (.array .int) := ⟨RX1, TX1, 8, RX1, tyX1, rfl, by decide, by decide +kernel, by decide +kernel, rfl, tyX1_ok, nmX1, rfl, rfl, rfl⟩
theorem pX1_init_15 : gk_ff wsX1_init RX1 15 1 3 (.array .int) := ⟨RX1, TX1, 8, RX1, tyX1, rfl, by decide, by decide +kernel, by decide +kernel, rfl, tyX1_ok, nmX1, rfl, rfl, rfl⟩
theorem pX1_init_18 : gk_ff wsX1_init RX1 18 1 4 (.array .int) := ⟨RX1, TX1, 8, RX1, tyX1, rfl, by decide, by decide +kernel, by decide +kernel, rfl, tyX1_ok, nmX1, rfl, rfl, rfl⟩
theorem pX1_init_21 : gk_ff wsX1_init RX1 21 1 5 (.array .int) := ⟨RX1, TX1, 8, RX1, tyX1, rfl, by decide, by decide +kernel, by decide +kernel, rfl, tyX1_ok, nmX1, rfl, rfl, rfl⟩
theorem pX1_init_24 : gk_ff wsX1_init RX1 24 1 6 (.array .int) := ⟨RX1, TX1, 8, RX1, tyX1, rfl, by decide, by decide +kernel, by decide +kernel, rfl, tyX1_ok, nmX1, rfl, rfl, rfl⟩
theorem pX1_init_27 : gk_ff wsX1_init RX1 27 1 7 (.array .int) := ⟨RX1, TX1, 8, RX1, tyX1, rfl, by decide, by decide +kernel, by decide +kernel, rfl, tyX1_ok, nmX1, rfl, rfl, rfl⟩
set_option maxRecDepth 100000 in
set_option maxHeartbeats 4000000 in
theorem ctX1_init (K : gk_K) {M : Nat → Int32} (h1 : M 1 = 0) (h3 : M 3 = 0) (ha : ∀ c w, c < 5 → w < 6 → M (iC c w) = 0) : gk_Kt K yX1_init wsX1_init rmX1_init 1 [.int 0, .int 0, .null, .null, .null, .null, .null, .null] LCars M 6 30 := by
  refine gk_met (cc := cX1_init) (maxL := 1) (fun h0 => [some (.ref h0)]) (plainFor_of_name (by decide)) rfl rfl (by decide) (fun h0 => rfl) (fun V hV C => ?_)
  subst hV
  refine gk_aload_0 (pc := 0) C dX1_init_0 ?_
  refine gk_objInit (pc := 1) C dX1_init_1 (by decide +kernel) (by decide +kernel) (by decide +kernel) ⟨Nat.le_of_ble_eq_true rfl, Nat.le_of_ble_eq_true rfl⟩ ?_
  refine gk_aload_0 (pc := 4) C dX1_init_4 ?_
  refine gk_iconst (pc := 5) (nI 5) C dX1_init_5 (by decide) ?_
  refine gk_newa (pc := 6) C dX1_init_6 (by decide +kernel) (by omega) (Nat.le_of_ble_eq_true rfl) (Nat.le_of_ble_eq_true rfl) (fun q1 => ?_)
  refine gk_ws (W1 := [(V.2.1, .inr (1, [.int 0, .int 0, .null, .null, .null, .null, .null, .null])), (q1, .inl (V.1.2.2.1, 5, .inl (fun _ => 0)))]) rfl ?_
  refine gk_putF (pc := 8) (q0 := 0) C dX1_init_8 pX1_init_9 rfl (Nat.le_of_ble_eq_true rfl) rfl rfl ?_
  refine gk_ws (W1 := [(V.2.1, .inr (1, [.int 0, .int 0, .ref q1, .null, .null, .null, .null, .null])), (q1, .inl (V.1.2.2.1, 5, .inl (fun _ => 0)))]) rfl ?_
  refine gk_aload_0 (pc := 11) C dX1_init_11 ?_
  refine gk_iconst (pc := 12) (nI 5) C dX1_init_12 (by decide) ?_
  refine gk_newa (pc := 13) C dX1_init_13 (by decide +kernel) (by omega) (Nat.le_of_ble_eq_true rfl) (Nat.le_of_ble_eq_true rfl) (fun q2 => ?_)
  refine gk_ws (W1 := [(V.2.1, .inr (1, [.int 0, .int 0, .ref q1, .null, .null, .null, .null, .null])), (q1, .inl (V.1.2.2.1, 5, .inl (fun _ => 0))), (q2, .inl (V.1.2.2.1, 5, .inl (fun _ => 0)))]) rfl ?_
  refine gk_putF (pc := 15) (q0 := 0) C dX1_init_15 pX1_init_15 rfl (Nat.le_of_ble_eq_true rfl) rfl rfl ?_
  refine gk_ws (W1 := [(V.2.1, .inr (1, [.int 0, .int 0, .ref q1, .ref q2, .null, .null, .null, .null])), (q1, .inl (V.1.2.2.1, 5, .inl (fun _ => 0))), (q2, .inl (V.1.2.2.1, 5, .inl (fun _ => 0)))]) rfl ?_
  refine gk_aload_0 (pc := 18) C dX1_init_18 ?_
  refine gk_iconst (pc := 19) (nI 5) C dX1_init_19 (by decide) ?_
  refine gk_newa (pc := 20) C dX1_init_20 (by decide +kernel) (by omega) (Nat.le_of_ble_eq_true rfl) (Nat.le_of_ble_eq_true rfl) (fun q3 => ?_)
  refine gk_ws (W1 := [(V.2.1, .inr (1, [.int 0, .int 0, .ref q1, .ref q2, .null, .null, .null, .null])), (q1, .inl (V.1.2.2.1, 5, .inl (fun _ => 0))), (q2, .inl (V.1.2.2.1, 5, .inl (fun _ => 0))), (q3, .inl (V.1.2.2.1, 5, .inl (fun _ => 0)))]) rfl ?_
  refine gk_putF (pc := 22) (q0 := 0) C dX1_init_22 pX1_init_18 rfl (Nat.le_of_ble_eq_true rfl) rfl rfl ?_
  refine gk_ws (W1 := [(V.2.1, .inr (1, [.int 0, .int 0, .ref q1, .ref q2, .ref q3, .null, .null, .null])), (q1, .inl (V.1.2.2.1, 5, .inl (fun _ => 0))), (q2, .inl (V.1.2.2.1, 5, .inl (fun _ => 0))), (q3, .inl (V.1.2.2.1, 5, .inl (fun _ => 0)))]) rfl ?_
  refine gk_aload_0 (pc := 25) C dX1_init_25 ?_
  refine gk_iconst (pc := 26) (nI 5) C dX1_init_26 (by decide) ?_
  refine gk_newa (pc := 27) C dX1_init_27 (by decide +kernel) (by omega) (Nat.le_of_ble_eq_true rfl) (Nat.le_of_ble_eq_true rfl) (fun q4 => ?_)
  refine gk_ws (W1 := [(V.2.1, .inr (1, [.int 0, .int 0, .ref q1, .ref q2, .ref q3, .null, .null, .null])), (q1, .inl (V.1.2.2.1, 5, .inl (fun _ => 0))), (q2, .inl (V.1.2.2.1, 5, .inl (fun _ => 0))), (q3, .inl (V.1.2.2.1, 5, .inl (fun _ => 0))), (q4, .inl (V.1.2.2.1, 5, .inl (fun _ => 0)))]) rfl ?_
  refine gk_putF (pc := 29) (q0 := 0) C dX1_init_29 pX1_init_21 rfl (Nat.le_of_ble_eq_true rfl) rfl rfl ?_
  refine gk_ws (W1 := [(V.2.1, .inr (1, [.int 0, .int 0, .ref q1, .ref q2, .ref q3, .ref q4, .null, .null])), (q1, .inl (V.1.2.2.1, 5, .inl (fun _ => 0))), (q2, .inl (V.1.2.2.1, 5, .inl (fun _ => 0))), (q3, .inl (V.1.2.2.1, 5, .inl (fun _ => 0))), (q4, .inl (V.1.2.2.1, 5, .inl (fun _ => 0)))]) rfl ?_
  refine gk_aload_0 (pc := 32) C dX1_init_32 ?_
  refine gk_iconst (pc := 33) (nI 5) C dX1_init_33 (by decide) ?_
  refine gk_newa (pc := 34) C dX1_init_34 (by decide +kernel) (by omega) (Nat.le_of_ble_eq_true rfl) (Nat.le_of_ble_eq_true rfl) (fun q5 => ?_)
  refine gk_ws (W1 := [(V.2.1, .inr (1, [.int 0, .int 0, .ref q1, .ref q2, .ref q3, .ref q4, .null, .null])), (q1, .inl (V.1.2.2.1, 5, .inl (fun _ => 0))), (q2, .inl (V.1.2.2.1, 5, .inl (fun _ => 0))), (q3, .inl (V.1.2.2.1, 5, .inl (fun _ => 0))), (q4, .inl (V.1.2.2.1, 5, .inl (fun _ => 0))), (q5, .inl (V.1.2.2.1, 5, .inl (fun _ => 0)))]) rfl ?_
  refine gk_putF (pc := 36) (q0 := 0) C dX1_init_36 pX1_init_24 rfl (Nat.le_of_ble_eq_true rfl) rfl rfl ?_
  refine gk_ws (W1 := [(V.2.1, .inr (1, [.int 0, .int 0, .ref q1, .ref q2, .ref q3, .ref q4, .ref q5, .null])), (q1, .inl (V.1.2.2.1, 5, .inl (fun _ => 0))), (q2, .inl (V.1.2.2.1, 5, .inl (fun _ => 0))), (q3, .inl (V.1.2.2.1, 5, .inl (fun _ => 0))), (q4, .inl (V.1.2.2.1, 5, .inl (fun _ => 0))), (q5, .inl (V.1.2.2.1, 5, .inl (fun _ => 0)))]) rfl ?_
  refine gk_aload_0 (pc := 39) C dX1_init_39 ?_
  refine gk_iconst (pc := 40) (nI 5) C dX1_init_40 (by decide) ?_
  refine gk_newa (pc := 41) C dX1_init_41 (by decide +kernel) (by omega) (Nat.le_of_ble_eq_true rfl) (Nat.le_of_ble_eq_true rfl) (fun q6 => ?_)
  refine gk_ws (W1 := [(V.2.1, .inr (1, [.int 0, .int 0, .ref q1, .ref q2, .ref q3, .ref q4, .ref q5, .null])), (q1, .inl (V.1.2.2.1, 5, .inl (fun _ => 0))), (q2, .inl (V.1.2.2.1, 5, .inl (fun _ => 0))), (q3, .inl (V.1.2.2.1, 5, .inl (fun _ => 0))), (q4, .inl (V.1.2.2.1, 5, .inl (fun _ => 0))), (q5, .inl (V.1.2.2.1, 5, .inl (fun _ => 0))), (q6, .inl (V.1.2.2.1, 5, .inl (fun _ => 0)))]) rfl ?_
  refine gk_putF (pc := 43) (q0 := 0) C dX1_init_43 pX1_init_27 rfl (Nat.le_of_ble_eq_true rfl) rfl rfl ?_
  refine gk_ws (W1 := [(V.2.1, .inr (1, [.int 0, .int 0, .ref q1, .ref q2, .ref q3, .ref q4, .ref q5, .ref q6])), (q1, .inl (V.1.2.2.1, 5, .inl (fun _ => 0))), (q2, .inl (V.1.2.2.1, 5, .inl (fun _ => 0))), (q3, .inl (V.1.2.2.1, 5, .inl (fun _ => 0))), (q4, .inl (V.1.2.2.1, 5, .inl (fun _ => 0))), (q5, .inl (V.1.2.2.1, 5, .inl (fun _ => 0))), (q6, .inl (V.1.2.2.1, 5, .inl (fun _ => 0)))]) rfl ?_
  refine gk_vret (pc := 46) C dX1_init_46 (fun j => match j with | 0 => V.2.1 | 1 => q1 | 2 => q2 | 3 => q3 | 4 => q4 | 5 => q5 | _ => q6) rfl (gk_eq rfl (fun j c hj => ?_)) rfl rfl
  have hl : j < 7 := (List.getElem?_eq_some_iff.mp hj).1
  rcases (show j = 0 ∨ j = 1 ∨ j = 2 ∨ j = 3 ∨ j = 4 ∨ j = 5 ∨ j = 6 by omega) with rfl | rfl | rfl | rfl | rfl | rfl | rfl
  · cases hj; refine congrArg some (Prod.ext rfl ?_); simp only [gl_e, gl_v, List.map]; rw [h1, h3]; rfl
  · cases hj; exact congrArg some (Prod.ext rfl (gk_za (fun i hi => ha i 0 hi (by omega))))
  · cases hj; exact congrArg some (Prod.ext rfl (gk_za (fun i hi => ha i 1 hi (by omega))))
  · cases hj; exact congrArg some (Prod.ext rfl (gk_za (fun i hi => ha i 2 hi (by omega))))
  · cases hj; exact congrArg some (Prod.ext rfl (gk_za (fun i hi => ha i 3 hi (by omega))))
  · cases hj; exact congrArg some (Prod.ext rfl (gk_za (fun i hi => ha i 4 hi (by omega))))
  · cases hj; exact congrArg some (Prod.ext rfl (gk_za (fun i hi => ha i 5 hi (by omega))))
theorem pX0_init_9 : gk_ff wsX0_init RX0 9 0 1 (.array .int) := ⟨RX0, TX0, 9, RX0, tyX0, rfl, by decide, by decide +kernel, by decide +kernel, rfl, tyX0_ok, nmX0, rfl, rfl, rfl⟩
theorem pX0_init_15 : gk_ff wsX0_init RX0 15 0 2 (.array .int) := ⟨RX0, TX0, 9, RX0, tyX0, rfl, by decide, by decide +kernel, by decide +kernel, rfl, tyX0_ok, nmX0, rfl, rfl, rfl⟩
theorem pX0_init_18 : gk_ff wsX0_init RX0 18 0 3 (.array .int) := ⟨RX0, TX0, 9, RX0, tyX0, rfl, by decide, by decide +kernel, by decide +kernel, rfl, tyX0_ok, nmX0, rfl, rfl, rfl⟩
theorem pX0_init_21 : gk_ff wsX0_init RX0 21 0 4 (.array .int) := ⟨RX0, TX0, 9, RX0, tyX0, rfl, by decide, by decide +kernel, by decide +kernel, rfl, tyX0_ok, nmX0, rfl, rfl, rfl⟩
theorem pX0_init_24 : gk_ff wsX0_init RX0 24 0 5 (.array .int) := ⟨RX0, TX0, 9, RX0, tyX0, rfl, by decide, by decide +kernel, by decide +kernel, rfl, tyX0_ok, nmX0, rfl, rfl, rfl⟩
theorem pX0_init_27 : gk_ff wsX0_init RX0 27 0 6 (.array .int) := ⟨RX0, TX0, 9, RX0, tyX0, rfl, by decide, by decide +kernel, by decide +kernel, rfl, tyX0_ok, nmX0, rfl, rfl, rfl⟩
theorem pX0_init_30 : gk_ff wsX0_init RX0 30 0 7 (.array .int) := ⟨RX0, TX0, 9, RX0, tyX0, rfl, by decide, by decide +kernel, by decide +kernel, rfl, tyX0_ok, nmX0, rfl, rfl, rfl⟩
theorem pX0_init_33 : gk_ff wsX0_init RX0 33 0 8 (.array .int) := ⟨RX0, TX0, 9, RX0, tyX0, rfl, by decide, by decide +kernel, by decide +kernel, rfl, tyX0_ok, nmX0, rfl, rfl, rfl⟩
set_option maxRecDepth 100000 in
set_option maxHeartbeats 4000000 in
theorem ctX0_init (K : gk_K) {M : Nat → Int32} (h2 : M 2 = 0) (ha : ∀ k w, k < 40 → w < 8 → M (iK k w) = 0) : gk_Kt K yX0_init wsX0_init rmX0_init 0 [.int 0, .null, .null, .null, .null, .null, .null, .null, .null] LCall M 8 320 := by
  refine gk_met (cc := cX0_init) (maxL := 1) (fun h0 => [some (.ref h0)]) (plainFor_of_name (by decide)) rfl rfl (by decide) (fun h0 => rfl) (fun V hV C => ?_)
  subst hV
  refine gk_aload_0 (pc := 0) C dX0_init_0 ?_
  refine gk_objInit (pc := 1) C dX0_init_1 (by decide +kernel) (by decide +kernel) (by decide +kernel) ⟨Nat.le_of_ble_eq_true rfl, Nat.le_of_ble_eq_true rfl⟩ ?_
  refine gk_aload_0 (pc := 4) C dX0_init_4 ?_
  refine gk_bipush (pc := 5) (nI 40) C dX0_init_5 (by decide +kernel) ?_
  refine gk_newa (pc := 7) C dX0_init_7 (by decide +kernel) (by omega) (Nat.le_of_ble_eq_true rfl) (Nat.le_of_ble_eq_true rfl) (fun q1 => ?_)
  refine gk_ws (W1 := [(V.2.1, .inr (0, [.int 0, .null, .null, .null, .null, .null, .null, .null, .null])), (q1, .inl (V.1.2.2.1, 40, .inl (fun _ => 0)))]) rfl ?_
  refine gk_putF (pc := 9) (q0 := 0) C dX0_init_9 pX0_init_9 rfl (Nat.le_of_ble_eq_true rfl) rfl rfl ?_
  refine gk_ws (W1 := [(V.2.1, .inr (0, [.int 0, .ref q1, .null, .null, .null, .null, .null, .null, .null])), (q1, .inl (V.1.2.2.1, 40, .inl (fun _ => 0)))]) rfl ?_
  refine gk_aload_0 (pc := 12) C dX0_init_12 ?_
  refine gk_bipush (pc := 13) (nI 40) C dX0_init_13 (by decide +kernel) ?_
  refine gk_newa (pc := 15) C dX0_init_15 (by decide +kernel) (by omega) (Nat.le_of_ble_eq_true rfl) (Nat.le_of_ble_eq_true rfl) (fun q2 => ?_)
  refine gk_ws (W1 := [(V.2.1, .inr (0, [.int 0, .ref q1, .null, .null, .null, .null, .null, .null, .null])), (q1, .inl (V.1.2.2.1, 40, .inl (fun _ => 0))), (q2, .inl (V.1.2.2.1, 40, .inl (fun _ => 0)))]) rfl ?_
  refine gk_putF (pc := 17) (q0 := 0) C dX0_init_17 pX0_init_15 rfl (Nat.le_of_ble_eq_true rfl) rfl rfl ?_
  refine gk_ws (W1 := [(V.2.1, .inr (0, [.int 0, .ref q1, .ref q2, .null, .null, .null, .null, .null, .null])), (q1, .inl (V.1.2.2.1, 40, .inl (fun _ => 0))), (q2, .inl (V.1.2.2.1, 40, .inl (fun _ => 0)))]) rfl ?_
  refine gk_aload_0 (pc := 20) C dX0_init_20 ?_
  refine gk_bipush (pc := 21) (nI 40) C dX0_init_21 (by decide +kernel) ?_
  refine gk_newa (pc := 23) C dX0_init_23 (by decide +kernel) (by omega) (Nat.le_of_ble_eq_true rfl) (Nat.le_of_ble_eq_true rfl) (fun q3 => ?_)
  refine gk_ws (W1 := [(V.2.1, .inr (0, [.int 0, .ref q1, .ref q2, .null, .null, .null, .null, .null, .null])), (q1, .inl (V.1.2.2.1, 40, .inl (fun _ => 0))), (q2, .inl (V.1.2.2.1, 40, .inl (fun _ => 0))), (q3, .inl (V.1.2.2.1, 40, .inl (fun _ => 0)))]) rfl ?_
  refine gk_putF (pc := 25) (q0 := 0) C dX0_init_25 pX0_init_18 rfl (Nat.le_of_ble_eq_true rfl) rfl rfl ?_
  refine gk_ws (W1 := [(V.2.1, .inr (0, [.int 0, .ref q1, .ref q2, .ref q3, .null, .null, .null, .null, .null])), (q1, .inl (V.1.2.2.1, 40, .inl (fun _ => 0))), (q2, .inl (V.1.2.2.1, 40, .inl (fun _ => 0))), (q3, .inl (V.1.2.2.1, 40, .inl (fun _ => 0)))]) rfl ?_
  refine gk_aload_0 (pc := 28) C dX0_init_28 ?_
  refine gk_bipush (pc := 29) (nI 40) C dX0_init_29 (by decide +kernel) ?_
  refine gk_newa (pc := 31) C dX0_init_31 (by decide +kernel) (by omega) (Nat.le_of_ble_eq_true rfl) (Nat.le_of_ble_eq_true rfl) (fun q4 => ?_)
  refine gk_ws (W1 := [(V.2.1, .inr (0, [.int 0, .ref q1, .ref q2, .ref q3, .null, .null, .null, .null, .null])), (q1, .inl (V.1.2.2.1, 40, .inl (fun _ => 0))), (q2, .inl (V.1.2.2.1, 40, .inl (fun _ => 0))), (q3, .inl (V.1.2.2.1, 40, .inl (fun _ => 0))), (q4, .inl (V.1.2.2.1, 40, .inl (fun _ => 0)))]) rfl ?_
  refine gk_putF (pc := 33) (q0 := 0) C dX0_init_33 pX0_init_21 rfl (Nat.le_of_ble_eq_true rfl) rfl rfl ?_
  refine gk_ws (W1 := [(V.2.1, .inr (0, [.int 0, .ref q1, .ref q2, .ref q3, .ref q4, .null, .null, .null, .null])), (q1, .inl (V.1.2.2.1, 40, .inl (fun _ => 0))), (q2, .inl (V.1.2.2.1, 40, .inl (fun _ => 0))), (q3, .inl (V.1.2.2.1, 40, .inl (fun _ => 0))), (q4, .inl (V.1.2.2.1, 40, .inl (fun _ => 0)))]) rfl ?_
  refine gk_aload_0 (pc := 36) C dX0_init_36 ?_
  refine gk_bipush (pc := 37) (nI 40) C dX0_init_37 (by decide +kernel) ?_
  refine gk_newa (pc := 39) C dX0_init_39 (by decide +kernel) (by omega) (Nat.le_of_ble_eq_true rfl) (Nat.le_of_ble_eq_true rfl) (fun q5 => ?_)
  refine gk_ws (W1 := [(V.2.1, .inr (0, [.int 0, .ref q1, .ref q2, .ref q3, .ref q4, .null, .null, .null, .null])), (q1, .inl (V.1.2.2.1, 40, .inl (fun _ => 0))), (q2, .inl (V.1.2.2.1, 40, .inl (fun _ => 0))), (q3, .inl (V.1.2.2.1, 40, .inl (fun _ => 0))), (q4, .inl (V.1.2.2.1, 40, .inl (fun _ => 0))), (q5, .inl (V.1.2.2.1, 40, .inl (fun _ => 0)))]) rfl ?_
  refine gk_putF (pc := 41) (q0 := 0) C dX0_init_41 pX0_init_24 rfl (Nat.le_of_ble_eq_true rfl) rfl rfl ?_
  refine gk_ws (W1 := [(V.2.1, .inr (0, [.int 0, .ref q1, .ref q2, .ref q3, .ref q4, .ref q5, .null, .null, .null])), (q1, .inl (V.1.2.2.1, 40, .inl (fun _ => 0))), (q2, .inl (V.1.2.2.1, 40, .inl (fun _ => 0))), (q3, .inl (V.1.2.2.1, 40, .inl (fun _ => 0))), (q4, .inl (V.1.2.2.1, 40, .inl (fun _ => 0))), (q5, .inl (V.1.2.2.1, 40, .inl (fun _ => 0)))]) rfl ?_
  refine gk_aload_0 (pc := 44) C dX0_init_44 ?_
  refine gk_bipush (pc := 45) (nI 40) C dX0_init_45 (by decide +kernel) ?_
  refine gk_newa (pc := 47) C dX0_init_47 (by decide +kernel) (by omega) (Nat.le_of_ble_eq_true rfl) (Nat.le_of_ble_eq_true rfl) (fun q6 => ?_)
  refine gk_ws (W1 := [(V.2.1, .inr (0, [.int 0, .ref q1, .ref q2, .ref q3, .ref q4, .ref q5, .null, .null, .null])), (q1, .inl (V.1.2.2.1, 40, .inl (fun _ => 0))), (q2, .inl (V.1.2.2.1, 40, .inl (fun _ => 0))), (q3, .inl (V.1.2.2.1, 40, .inl (fun _ => 0))), (q4, .inl (V.1.2.2.1, 40, .inl (fun _ => 0))), (q5, .inl (V.1.2.2.1, 40, .inl (fun _ => 0))), (q6, .inl (V.1.2.2.1, 40, .inl (fun _ => 0)))]) rfl ?_
  refine gk_putF (pc := 49) (q0 := 0) C dX0_init_49 pX0_init_27 rfl (Nat.le_of_ble_eq_true rfl) rfl rfl ?_
  refine gk_ws (W1 := [(V.2.1, .inr (0, [.int 0, .ref q1, .ref q2, .ref q3, .ref q4, .ref q5, .ref q6, .null, .null])), (q1, .inl (V.1.2.2.1, 40, .inl (fun _ => 0))), (q2, .inl (V.1.2.2.1, 40, .inl (fun _ => 0))), (q3, .inl (V.1.2.2.1, 40, .inl (fun _ => 0))), (q4, .inl (V.1.2.2.1, 40, .inl (fun _ => 0))), (q5, .inl (V.1.2.2.1, 40, .inl (fun _ => 0))), (q6, .inl (V.1.2.2.1, 40, .inl (fun _ => 0)))]) rfl ?_
  refine gk_aload_0 (pc := 52) C dX0_init_52 ?_
  refine gk_bipush (pc := 53) (nI 40) C dX0_init_53 (by decide +kernel) ?_
  refine gk_newa (pc := 55) C dX0_init_55 (by decide +kernel) (by omega) (Nat.le_of_ble_eq_true rfl) (Nat.le_of_ble_eq_true rfl) (fun q7 => ?_)
  refine gk_ws (W1 := [(V.2.1, .inr (0, [.int 0, .ref q1, .ref q2, .ref q3, .ref q4, .ref q5, .ref q6, .null, .null])), (q1, .inl (V.1.2.2.1, 40, .inl (fun _ => 0))), (q2, .inl (V.1.2.2.1, 40, .inl (fun _ => 0))), (q3, .inl (V.1.2.2.1, 40, .inl (fun _ => 0))), (q4, .inl (V.1.2.2.1, 40, .inl (fun _ => 0))), (q5, .inl (V.1.2.2.1, 40, .inl (fun _ => 0))), (q6, .inl (V.1.2.2.1, 40, .inl (fun _ => 0))), (q7, .inl (V.1.2.2.1, 40, .inl (fun _ => 0)))]) rfl ?_
  refine gk_putF (pc := 57) (q0 := 0) C dX0_init_57 pX0_init_30 rfl (Nat.le_of_ble_eq_true rfl) rfl rfl ?_
  refine gk_ws (W1 := [(V.2.1, .inr (0, [.int 0, .ref q1, .ref q2, .ref q3, .ref q4, .ref q5, .ref q6, .ref q7, .null])), (q1, .inl (V.1.2.2.1, 40, .inl (fun _ => 0))), (q2, .inl (V.1.2.2.1, 40, .inl (fun _ => 0))), (q3, .inl (V.1.2.2.1, 40, .inl (fun _ => 0))), (q4, .inl (V.1.2.2.1, 40, .inl (fun _ => 0))), (q5, .inl (V.1.2.2.1, 40, .inl (fun _ => 0))), (q6, .inl (V.1.2.2.1, 40, .inl (fun _ => 0))), (q7, .inl (V.1.2.2.1, 40, .inl (fun _ => 0)))]) rfl ?_
  refine gk_aload_0 (pc := 60) C dX0_init_60 ?_
  refine gk_bipush (pc := 61) (nI 40) C dX0_init_61 (by decide +kernel) ?_
  refine gk_newa (pc := 63) C dX0_init_63 (by decide +kernel) (by omega) (Nat.le_of_ble_eq_true rfl) (Nat.le_of_ble_eq_true rfl) (fun q8 => ?_)
  refine gk_ws (W1 := [(V.2.1, .inr (0, [.int 0, .ref q1, .ref q2, .ref q3, .ref q4, .ref q5, .ref q6, .ref q7, .null])), (q1, .inl (V.1.2.2.1, 40, .inl (fun _ => 0))), (q2, .inl (V.1.2.2.1, 40, .inl (fun _ => 0))), (q3, .inl (V.1.2.2.1, 40, .inl (fun _ => 0))), (q4, .inl (V.1.2.2.1, 40, .inl (fun _ => 0))), (q5, .inl (V.1.2.2.1, 40, .inl (fun _ => 0))), (q6, .inl (V.1.2.2.1, 40, .inl (fun _ => 0))), (q7, .inl (V.1.2.2.1, 40, .inl (fun _ => 0))), (q8, .inl (V.1.2.2.1, 40, .inl (fun _ => 0)))]) rfl ?_
  refine gk_putF (pc := 65) (q0 := 0) C dX0_init_65 pX0_init_33 rfl (Nat.le_of_ble_eq_true rfl) rfl rfl ?_
  refine gk_ws (W1 := [(V.2.1, .inr (0, [.int 0, .ref q1, .ref q2, .ref q3, .ref q4, .ref q5, .ref q6, .ref q7, .ref q8])), (q1, .inl (V.1.2.2.1, 40, .inl (fun _ => 0))), (q2, .inl (V.1.2.2.1, 40, .inl (fun _ => 0))), (q3, .inl (V.1.2.2.1, 40, .inl (fun _ => 0))), (q4, .inl (V.1.2.2.1, 40, .inl (fun _ => 0))), (q5, .inl (V.1.2.2.1, 40, .inl (fun _ => 0))), (q6, .inl (V.1.2.2.1, 40, .inl (fun _ => 0))), (q7, .inl (V.1.2.2.1, 40, .inl (fun _ => 0))), (q8, .inl (V.1.2.2.1, 40, .inl (fun _ => 0)))]) rfl ?_
  refine gk_vret (pc := 68) C dX0_init_68 (fun j => match j with | 0 => V.2.1 | 1 => q1 | 2 => q2 | 3 => q3 | 4 => q4 | 5 => q5 | 6 => q6 | 7 => q7 | _ => q8) rfl (gk_eq rfl (fun j c hj => ?_)) rfl rfl
  have hl : j < 9 := (List.getElem?_eq_some_iff.mp hj).1
  rcases (show j = 0 ∨ j = 1 ∨ j = 2 ∨ j = 3 ∨ j = 4 ∨ j = 5 ∨ j = 6 ∨ j = 7 ∨ j = 8 by omega) with rfl | rfl | rfl | rfl | rfl | rfl | rfl | rfl | rfl
  · cases hj; refine congrArg some (Prod.ext rfl ?_); simp only [gl_e, gl_v, List.map]; rw [h2]; rfl
  · cases hj; exact congrArg some (Prod.ext rfl (gk_za (fun i hi => ha i 0 hi (by omega))))
  · cases hj; exact congrArg some (Prod.ext rfl (gk_za (fun i hi => ha i 1 hi (by omega))))
  · cases hj; exact congrArg some (Prod.ext rfl (gk_za (fun i hi => ha i 2 hi (by omega))))
  · cases hj; exact congrArg some (Prod.ext rfl (gk_za (fun i hi => ha i 3 hi (by omega))))
  · cases hj; exact congrArg some (Prod.ext rfl (gk_za (fun i hi => ha i 4 hi (by omega))))
  · cases hj; exact congrArg some (Prod.ext rfl (gk_za (fun i hi => ha i 5 hi (by omega))))
  · cases hj; exact congrArg some (Prod.ext rfl (gk_za (fun i hi => ha i 6 hi (by omega))))
  · cases hj; exact congrArg some (Prod.ext rfl (gk_za (fun i hi => ha i 7 hi (by omega))))
