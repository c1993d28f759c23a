/-! ===== every word that the law's body takes stands in the tables ===== -/
theorem lw_memI {big ws : List Cond} (ps : List Nat) (hp : ws = ps.filterMap (fun i => big[i]?)) : ∀ w ∈ ws, w ∈ big := by
  intro w hw
  rw [hp] at hw
  obtain ⟨i, -, hi⟩ := List.mem_filterMap.mp hw
  exact List.mem_of_getElem? hi
theorem lw_memA {big a b : List Cond} (ha : ∀ w ∈ a, w ∈ big) (hb : ∀ w ∈ b, w ∈ big) : ∀ w ∈ a ++ b, w ∈ big := fun w hw => (List.mem_append.mp hw).elim (ha w) (hb w)
set_option maxRecDepth 100000 in
theorem wsIn_wsL_law_r1 : ∀ w ∈ wsL_law_r1, w ∈ lw_tbl := lw_memI [9, 10, 1, 64, 460, 202, 11, 12, 13, 14, 15, 16, 17, 18, 2, 149, 150, 129, 130, 5, 151, 19, 20, 21] (rfl)
set_option maxRecDepth 100000 in
theorem wsIn_wsL_law_r2 : ∀ w ∈ wsL_law_r2, w ∈ lw_tbl := lw_memI [22, 114, 23, 24, 3, 116, 65, 66, 4, 118, 26, 27, 28, 35, 36, 37, 39, 42, 45, 68, 69, 70, 74, 77] (rfl)
set_option maxRecDepth 100000 in
theorem wsIn_wsL_law_r3 : ∀ w ∈ wsL_law_r3, w ∈ lw_tbl := lw_memI [80, 83, 85, 87, 89, 91, 131, 132, 133, 134, 135, 141, 137, 429, 430, 0, 431, 441, 447, 432, 433, 434, 435, 117] (rfl)
set_option maxRecDepth 100000 in
theorem wsIn_wsL_law_r4 : ∀ w ∈ wsL_law_r4, w ∈ lw_tbl := lw_memI [41, 43, 119, 46, 256, 257, 258, 259, 29, 436, 265, 266, 267, 71, 437, 345, 346, 347, 284, 285, 286, 287, 280, 281] (rfl)
set_option maxRecDepth 100000 in
theorem wsIn_wsL_law_r5 : ∀ w ∈ wsL_law_r5, w ∈ lw_tbl := lw_memI [282, 283, 438, 349, 6, 350, 351, 352, 353, 439, 418, 419, 420, 421, 422, 423, 424, 342, 7, 343, 440, 329, 330, 331] (rfl)
set_option maxRecDepth 100000 in
theorem wsIn_wsL_law_r6 : ∀ w ∈ wsL_law_r6, w ∈ lw_tbl := lw_memI [332, 164, 165, 166, 112, 292, 293, 294, 295, 296, 297, 298, 299, 300, 301, 302, 382, 383, 384, 307, 308, 309, 310, 370] (rfl)
set_option maxRecDepth 100000 in
theorem wsIn_wsL_law_r7 : ∀ w ∈ wsL_law_r7, w ∈ lw_tbl := lw_memI [371, 372, 392, 393, 394, 442, 443, 444, 445, 76, 79, 82, 84, 86, 88, 90, 92, 446, 364, 365, 366, 448, 449, 450] (rfl)
set_option maxRecDepth 100000 in
theorem wsIn_wsL_law_r8 : ∀ w ∈ wsL_law_r8, w ∈ lw_tbl := lw_memI [451, 452, 453, 454, 455, 175, 176, 177, 178, 179, 180, 181, 182, 183, 184, 185, 186, 456, 457, 458, 459, 159, 160, 161] (rfl)
set_option maxRecDepth 100000 in
theorem wsIn_wsL_law_r9 : ∀ w ∈ wsL_law_r9, w ∈ lw_tbl := lw_memI [162, 113, 30, 72, 34, 139, 163, 167, 168, 169, 170, 171, 172, 173, 174, 187, 188, 189, 190, 191, 192, 193, 194, 195] (rfl)
set_option maxRecDepth 100000 in
theorem wsIn_wsL_law_r10 : ∀ w ∈ wsL_law_r10, w ∈ lw_tbl := lw_memI [196, 197, 198, 203, 204, 205, 206, 199, 200, 201, 207, 208, 209, 210, 211, 212, 213, 214, 215, 216, 217, 218, 219, 220] (rfl)
set_option maxRecDepth 100000 in
theorem wsIn_wsL_law_r11 : ∀ w ∈ wsL_law_r11, w ∈ lw_tbl := lw_memI [140, 138, 241, 242, 243, 221, 222, 223, 224, 225, 227, 226, 8, 228, 229, 230, 231, 32, 232, 233, 234, 235, 236, 237] (rfl)
set_option maxRecDepth 100000 in
theorem wsIn_wsL_law_r12 : ∀ w ∈ wsL_law_r12, w ∈ lw_tbl := lw_memI [238, 239, 7, 240, 244, 245, 246, 247, 248, 249, 250, 251, 115, 252, 253, 254, 255, 260, 261, 262, 263, 264, 268, 269] (rfl)
set_option maxRecDepth 100000 in
theorem wsIn_wsL_law_r13 : ∀ w ∈ wsL_law_r13, w ∈ lw_tbl := lw_memI [270, 271, 272, 273, 274, 275, 44, 40, 276, 277, 278, 279, 288, 289, 290, 291, 303, 304, 305, 306, 311, 312, 313, 314] (rfl)
set_option maxRecDepth 100000 in
theorem wsIn_wsL_law_r14 : ∀ w ∈ wsL_law_r14, w ∈ lw_tbl := lw_memI [315, 316, 317, 318, 319, 320, 321, 322, 323, 31, 324, 325, 326, 327, 328, 333, 334, 335, 336, 337, 338, 339, 340, 341] (rfl)
set_option maxRecDepth 100000 in
theorem wsIn_wsL_law_r15 : ∀ w ∈ wsL_law_r15, w ∈ lw_tbl := lw_memI [344, 348, 354, 355, 356, 357, 358, 359, 360, 361, 362, 363, 367, 368, 369, 385, 373, 374, 375, 376, 377, 378, 379, 380] (rfl)
set_option maxRecDepth 100000 in
theorem wsIn_wsL_law_r16 : ∀ w ∈ wsL_law_r16, w ∈ lw_tbl := lw_memI [381, 386, 387, 388, 389, 390, 391, 395, 396, 397, 398, 399, 400, 401, 402, 73, 81, 75, 78, 403, 404, 405, 406, 407] (rfl)
set_option maxRecDepth 100000 in
theorem wsIn_wsL_law_r17 : ∀ w ∈ wsL_law_r17, w ∈ lw_tbl := lw_memI [408, 38, 33, 409, 410, 411, 412, 413, 414, 415, 416, 417, 425, 426, 427, 428] (rfl)
set_option maxRecDepth 100000 in
theorem wsIn_wsX40 : ∀ w ∈ wsX40, w ∈ lw_tbl := lw_memI [152, 154, 156] (rfl)
set_option maxRecDepth 100000 in
theorem wsIn_wsX30 : ∀ w ∈ wsX30, w ∈ lw_tbl := lw_memI [120, 122, 124, 126] (rfl)
set_option maxRecDepth 100000 in
theorem wsIn_wsX20 : ∀ w ∈ wsX20, w ∈ lw_tbl := lw_memI [142, 144, 146] (rfl)
set_option maxRecDepth 100000 in
theorem wsIn_wsX10 : ∀ w ∈ wsX10, w ∈ lw_tbl := lw_memI [47, 49, 51, 53, 55, 57, 59, 61] (rfl)
set_option maxRecDepth 100000 in
theorem wsIn_wsX00 : ∀ w ∈ wsX00, w ∈ lw_tbl := lw_memI [93, 95, 97, 99, 101, 103, 105, 107, 109] (rfl)
theorem wsL_law_in : ∀ w ∈ wsL_law, w ∈ lw_tbl := lw_memA (lw_memA (lw_memA (lw_memA (lw_memA (lw_memA (lw_memA wsIn_wsL_law_r1 (lw_memA wsIn_wsL_law_r2 (lw_memA wsIn_wsL_law_r3 (lw_memA wsIn_wsL_law_r4 (lw_memA wsIn_wsL_law_r5 (lw_memA wsIn_wsL_law_r6 (lw_memA wsIn_wsL_law_r7 (lw_memA wsIn_wsL_law_r8 (lw_memA wsIn_wsL_law_r9 (lw_memA wsIn_wsL_law_r10 (lw_memA wsIn_wsL_law_r11 (lw_memA wsIn_wsL_law_r12 (lw_memA wsIn_wsL_law_r13 (lw_memA wsIn_wsL_law_r14 (lw_memA wsIn_wsL_law_r15 (lw_memA wsIn_wsL_law_r16 (wsIn_wsL_law_r17))))))))))))))))) wsIn_wsX40) wsIn_wsX30) wsIn_wsX20) wsIn_wsX10) wsIn_wsX00) (fun _ h => absurd h List.not_mem_nil)
theorem lw_inAO : Cond.arrayOver (.object "GoalLifts$House") ∈ lw_tbl := List.mem_of_getElem? (i := 136) (by decide +kernel)
theorem lw_inN1 : Cond.methodLinkNest RX3 17 yX1_init RX4 ∈ lw_tbl := List.mem_of_getElem? (i := 25) (by decide +kernel)
theorem lw_inN2 : Cond.methodLinkNest RX3 24 yX0_init RX4 ∈ lw_tbl := List.mem_of_getElem? (i := 67) (by decide +kernel)
