/-! ===== every word that the law's body takes stands in the tables ===== -/
theorem lw_memI {big ws : List Cond} (ps : List Nat) (hp : ws = ps.filterMap (fun i => big[i]?)) : ∀ w ∈ ws, w ∈ big := by
  intro w hw
  rw [hp] at hw
  obtain ⟨i, -, hi⟩ := List.mem_filterMap.mp hw
  exact List.mem_of_getElem? hi
theorem lw_memA {big a b : List Cond} (ha : ∀ w ∈ a, w ∈ big) (hb : ∀ w ∈ b, w ∈ big) : ∀ w ∈ a ++ b, w ∈ big := fun w hw => (List.mem_append.mp hw).elim (ha w) (hb w)
set_option maxRecDepth 100000 in
theorem wsIn_wsL_law_r1 : ∀ w ∈ wsL_law_r1, w ∈ lw_tbl := lw_memI [41, 42, 32, 462, 463, 37, 43, 44, 45, 46, 47, 48, 49, 50, 33, 181, 182, 161, 162, 36, 183, 51, 52, 53] (rfl)
set_option maxRecDepth 100000 in
theorem wsIn_wsL_law_r2 : ∀ w ∈ wsL_law_r2, w ∈ lw_tbl := lw_memI [54, 96, 146, 55, 56, 34, 148, 97, 98, 35, 150, 58, 59, 60, 67, 68, 69, 71, 74, 77, 100, 101, 102, 106] (rfl)
set_option maxRecDepth 100000 in
theorem wsIn_wsL_law_r3 : ∀ w ∈ wsL_law_r3, w ∈ lw_tbl := lw_memI [109, 112, 115, 117, 119, 121, 123, 163, 164, 165, 166, 167, 173, 169, 464, 465, 466, 467, 468, 469, 470, 471, 191, 192] (rfl)
set_option maxRecDepth 100000 in
theorem wsIn_wsL_law_r4 : ∀ w ∈ wsL_law_r4, w ∈ lw_tbl := lw_memI [193, 194, 149, 62, 195, 196, 197, 198, 199, 200, 201, 172, 170, 222, 223, 39, 224, 202, 203, 204, 205, 144, 206, 208] (rfl)
set_option maxRecDepth 100000 in
theorem wsIn_wsL_law_r5 : ∀ w ∈ wsL_law_r5, w ∈ lw_tbl := lw_memI [207, 38, 209, 210, 211, 212, 61, 64, 213, 214, 215, 216, 217, 103, 218, 219, 220, 39, 221, 225, 226, 227, 228, 484] (rfl)
set_option maxRecDepth 100000 in
theorem wsIn_wsL_law_r6 : ∀ w ∈ wsL_law_r6, w ∈ lw_tbl := lw_memI [485, 486, 487, 488, 489, 490, 491, 493, 1, 494, 472, 495, 497, 2, 498, 229, 230, 231, 232, 147, 499, 500, 501, 502] (rfl)
set_option maxRecDepth 100000 in
theorem wsIn_wsL_law_r7 : ∀ w ∈ wsL_law_r7, w ∈ lw_tbl := lw_memI [233, 234, 235, 236, 75, 151, 237, 238, 239, 240, 241, 242, 243, 244, 245, 246, 247, 248, 503, 504, 505, 506, 507, 509] (rfl)
set_option maxRecDepth 100000 in
theorem wsIn_wsL_law_r8 : ∀ w ∈ wsL_law_r8, w ∈ lw_tbl := lw_memI [3, 510, 511, 513, 4, 514, 515, 517, 5, 518, 519, 521, 6, 522, 249, 250, 251, 252, 253, 254, 255, 256, 76, 72] (rfl)
set_option maxRecDepth 100000 in
theorem wsIn_wsL_law_r9 : ∀ w ∈ wsL_law_r9, w ∈ lw_tbl := lw_memI [257, 258, 259, 260, 261, 262, 263, 264, 265, 266, 267, 268, 269, 270, 271, 272, 523, 524, 525, 526, 527, 529, 7, 530] (rfl)
set_option maxRecDepth 100000 in
theorem wsIn_wsL_law_r10 : ∀ w ∈ wsL_law_r10, w ∈ lw_tbl := lw_memI [531, 533, 8, 534, 535, 537, 9, 538, 539, 541, 10, 542, 273, 274, 275, 276, 73, 543, 544, 545, 546, 277, 278, 279] (rfl)
set_option maxRecDepth 100000 in
theorem wsIn_wsL_law_r11 : ∀ w ∈ wsL_law_r11, w ∈ lw_tbl := lw_memI [280, 104, 145, 281, 282, 283, 284, 285, 286, 287, 63, 288, 289, 290, 291, 292, 293, 294, 295, 296, 297, 298, 299, 300] (rfl)
set_option maxRecDepth 100000 in
theorem wsIn_wsL_law_r12 : ∀ w ∈ wsL_law_r12, w ∈ lw_tbl := lw_memI [301, 302, 303, 304, 305, 306, 307, 308, 309, 310, 311, 312, 313, 314, 315, 316, 40, 317, 318, 319, 320, 321, 322, 323] (rfl)
set_option maxRecDepth 100000 in
theorem wsIn_wsL_law_r13 : ∀ w ∈ wsL_law_r13, w ∈ lw_tbl := lw_memI [324, 325, 326, 327, 328, 329, 330, 331, 332, 333, 547, 548, 549, 550, 551, 552, 553, 554, 555, 556, 557, 559, 11, 560] (rfl)
set_option maxRecDepth 100000 in
theorem wsIn_wsL_law_r14 : ∀ w ∈ wsL_law_r14, w ∈ lw_tbl := lw_memI [561, 563, 12, 564, 565, 567, 13, 568, 569, 571, 14, 572, 573, 575, 15, 576, 577, 579, 16, 580, 581, 583, 17, 584] (rfl)
set_option maxRecDepth 100000 in
theorem wsIn_wsL_law_r15 : ∀ w ∈ wsL_law_r15, w ∈ lw_tbl := lw_memI [585, 586, 587, 588, 589, 590, 334, 335, 336, 337, 338, 339, 340, 341, 105, 113, 107, 110, 342, 343, 344, 345, 346, 347] (rfl)
set_option maxRecDepth 100000 in
theorem wsIn_wsL_law_r16 : ∀ w ∈ wsL_law_r16, w ∈ lw_tbl := lw_memI [70, 65, 348, 349, 350, 351, 352, 353, 354, 355, 356, 357, 358, 359, 360, 361, 362, 363, 364, 365, 366, 367, 591, 592] (rfl)
set_option maxRecDepth 100000 in
theorem wsIn_wsL_law_r17 : ∀ w ∈ wsL_law_r17, w ∈ lw_tbl := lw_memI [593, 594, 595, 597, 18, 598, 599, 601, 19, 602, 603, 605, 20, 606, 607, 609, 21, 610, 611, 613, 22, 614, 368, 369] (rfl)
set_option maxRecDepth 100000 in
theorem wsIn_wsL_law_r18 : ∀ w ∈ wsL_law_r18, w ∈ lw_tbl := lw_memI [370, 371, 171, 372, 373, 374, 375, 615, 616, 617, 618, 376, 377, 378, 379, 66, 380, 381, 382, 383, 384, 385, 386, 387] (rfl)
set_option maxRecDepth 100000 in
theorem wsIn_wsL_law_r19 : ∀ w ∈ wsL_law_r19, w ∈ lw_tbl := lw_memI [388, 389, 390, 391, 392, 393, 394, 395, 396, 397, 398, 399, 400, 401, 402, 403, 404, 619, 620, 621, 622, 623, 625, 23] (rfl)
set_option maxRecDepth 100000 in
theorem wsIn_wsL_law_r20 : ∀ w ∈ wsL_law_r20, w ∈ lw_tbl := lw_memI [626, 627, 629, 24, 630, 631, 633, 25, 634, 635, 637, 26, 638, 639, 641, 27, 642, 405, 406, 407, 408, 78, 409, 410] (rfl)
set_option maxRecDepth 100000 in
theorem wsIn_wsL_law_r21 : ∀ w ∈ wsL_law_r21, w ∈ lw_tbl := lw_memI [411, 412, 413, 643, 644, 645, 646, 414, 415, 416, 417, 108, 111, 114, 116, 118, 120, 122, 124, 418, 647, 648, 649, 650] (rfl)
set_option maxRecDepth 100000 in
theorem wsIn_wsL_law_r22 : ∀ w ∈ wsL_law_r22, w ∈ lw_tbl := lw_memI [651, 653, 28, 654, 419, 420, 421, 422, 423, 424, 425, 426, 427, 428, 429, 430, 655, 656, 657, 658, 431, 432, 433, 434] (rfl)
set_option maxRecDepth 100000 in
theorem wsIn_wsL_law_r23 : ∀ w ∈ wsL_law_r23, w ∈ lw_tbl := lw_memI [435, 436, 659, 660, 661, 662, 437, 438, 439, 440, 663, 664, 665, 666, 441, 442, 443, 444, 445, 667, 668, 669, 670, 671] (rfl)
set_option maxRecDepth 100000 in
theorem wsIn_wsL_law_r24 : ∀ w ∈ wsL_law_r24, w ∈ lw_tbl := lw_memI [672, 673, 446, 447, 448, 449, 450, 451, 452, 453, 674, 675, 676, 677, 678, 680, 29, 681, 454, 455, 456, 457, 458, 460] (rfl)
set_option maxRecDepth 100000 in
theorem wsIn_wsL_law_r25 : ∀ w ∈ wsL_law_r25, w ∈ lw_tbl := lw_memI [0, 461, 682, 683, 684, 685, 686, 688, 30, 689] (rfl)
set_option maxRecDepth 100000 in
theorem wsIn_wsX40 : ∀ w ∈ wsX40, w ∈ lw_tbl := lw_memI [184, 186, 188] (rfl)
set_option maxRecDepth 100000 in
theorem wsIn_wsX50 : ∀ w ∈ wsX50, w ∈ lw_tbl := lw_memI [473, 475, 477, 479, 481] (rfl)
set_option maxRecDepth 100000 in
theorem wsIn_wsX30 : ∀ w ∈ wsX30, w ∈ lw_tbl := lw_memI [152, 154, 156, 158] (rfl)
set_option maxRecDepth 100000 in
theorem wsIn_wsX20 : ∀ w ∈ wsX20, w ∈ lw_tbl := lw_memI [174, 176, 178] (rfl)
set_option maxRecDepth 100000 in
theorem wsIn_wsX10 : ∀ w ∈ wsX10, w ∈ lw_tbl := lw_memI [79, 81, 83, 85, 87, 89, 91, 93] (rfl)
set_option maxRecDepth 100000 in
theorem wsIn_wsX00 : ∀ w ∈ wsX00, w ∈ lw_tbl := lw_memI [125, 127, 129, 131, 133, 135, 137, 139, 141] (rfl)
theorem wsL_law_in : ∀ w ∈ wsL_law, w ∈ lw_tbl := lw_memA (lw_memA (lw_memA (lw_memA (lw_memA (lw_memA (lw_memA (lw_memA wsIn_wsL_law_r1 (lw_memA wsIn_wsL_law_r2 (lw_memA wsIn_wsL_law_r3 (lw_memA wsIn_wsL_law_r4 (lw_memA wsIn_wsL_law_r5 (lw_memA wsIn_wsL_law_r6 (lw_memA wsIn_wsL_law_r7 (lw_memA wsIn_wsL_law_r8 (lw_memA wsIn_wsL_law_r9 (lw_memA wsIn_wsL_law_r10 (lw_memA wsIn_wsL_law_r11 (lw_memA wsIn_wsL_law_r12 (lw_memA wsIn_wsL_law_r13 (lw_memA wsIn_wsL_law_r14 (lw_memA wsIn_wsL_law_r15 (lw_memA wsIn_wsL_law_r16 (lw_memA wsIn_wsL_law_r17 (lw_memA wsIn_wsL_law_r18 (lw_memA wsIn_wsL_law_r19 (lw_memA wsIn_wsL_law_r20 (lw_memA wsIn_wsL_law_r21 (lw_memA wsIn_wsL_law_r22 (lw_memA wsIn_wsL_law_r23 (lw_memA wsIn_wsL_law_r24 (wsIn_wsL_law_r25))))))))))))))))))))))))) wsIn_wsX40) wsIn_wsX50) wsIn_wsX30) wsIn_wsX20) wsIn_wsX10) wsIn_wsX00) (fun _ h => absurd h List.not_mem_nil)
theorem lw_inAO : Cond.arrayOver (.object "GoalLifts$House") ∈ lw_tbl := List.mem_of_getElem? (i := 168) (by decide +kernel)
theorem lw_inN1 : Cond.methodLinkNest RX3 17 yX1_init RX4 ∈ lw_tbl := List.mem_of_getElem? (i := 57) (by decide +kernel)
theorem lw_inN2 : Cond.methodLinkNest RX3 24 yX0_init RX4 ∈ lw_tbl := List.mem_of_getElem? (i := 99) (by decide +kernel)
