theorem lw_memI {big ws : List Cond} (ps : List Nat) (hp : ws = ps.filterMap (fun i => big[i]?)) : ∀ w ∈ ws, w ∈ big := by
  intro w hw
  rw [hp] at hw
  obtain ⟨i, -, hi⟩ := List.mem_filterMap.mp hw
  exact List.mem_of_getElem? hi
set_option maxRecDepth 100000 in
theorem wsL_in_1 : ∀ w ∈ wsL_law_r1, w ∈ lw_tbl := lw_memI [45, 48, 53, 59, 101, 165, 467, 194, 197, 201, 224, 205, 212, 217, 221, 228, 488, 491, 495, 499, 232, 503, 236, 240] rfl
-- tail -463 []
