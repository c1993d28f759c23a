theorem dL_cell_0 : decode cL_cell 0 = .ok (.iload_n 1, 1) := by decide +kernel
theorem dL_cell_1 : decode cL_cell 1 = .ok (.aload_n 0, 1) := by decide +kernel
theorem dL_cell_2 : decode cL_cell 2 = .ok (.arraylength, 1) := by decide +kernel
theorem dL_cell_3 : decode cL_cell 3 = .ok (.if_icmp .ge 9, 3) := by decide +kernel
theorem dL_cell_6 : decode cL_cell 6 = .ok (.aload_n 0, 1) := by decide +kernel
theorem dL_cell_7 : decode cL_cell 7 = .ok (.iload_n 1, 1) := by decide +kernel
theorem dL_cell_8 : decode cL_cell 8 = .ok (.iaload, 1) := by decide +kernel
theorem dL_cell_9 : decode cL_cell 9 = .ok (.goto 9, 3) := by decide +kernel
theorem dL_cell_12 : decode cL_cell 12 = .ok (.ldc 7, 2) := by decide +kernel
theorem dL_cell_14 : decode cL_cell 14 = .ok (.iload_n 1, 1) := by decide +kernel
theorem dL_cell_15 : decode cL_cell 15 = .ok (.iconst 3, 1) := by decide +kernel
theorem dL_cell_16 : decode cL_cell 16 = .ok (.iadd, 1) := by decide +kernel
theorem dL_cell_17 : decode cL_cell 17 = .ok (.imul, 1) := by decide +kernel
theorem dL_cell_18 : decode cL_cell 18 = .ok (.ireturn, 1) := by decide +kernel
theorem dL_low_0 : decode cL_low 0 = .ok (.iload_n 0, 1) := by decide +kernel
theorem dL_low_1 : decode cL_low 1 = .ok (.ldc 8, 2) := by decide +kernel
theorem dL_low_3 : decode cL_low 3 = .ok (.iand, 1) := by decide +kernel
theorem dL_low_4 : decode cL_low 4 = .ok (.iload_n 1, 1) := by decide +kernel
theorem dL_low_5 : decode cL_low 5 = .ok (.irem, 1) := by decide +kernel
theorem dL_low_6 : decode cL_low 6 = .ok (.ireturn, 1) := by decide +kernel
theorem dL_is_0 : decode cL_is 0 = .ok (.lload_n 0, 1) := by decide +kernel
theorem dL_is_1 : decode cL_is 1 = .ok (.bipush 8, 2) := by decide +kernel
theorem dL_is_3 : decode cL_is 3 = .ok (.lshr, 1) := by decide +kernel
theorem dL_is_4 : decode cL_is 4 = .ok (.ldc2_w 9, 3) := by decide +kernel
theorem dL_is_7 : decode cL_is 7 = .ok (.land, 1) := by decide +kernel
theorem dL_is_8 : decode cL_is 8 = .ok (.l2i, 1) := by decide +kernel
theorem dL_is_9 : decode cL_is 9 = .ok (.ireturn, 1) := by decide +kernel
theorem dL_by_0 : decode cL_by 0 = .ok (.lload_n 0, 1) := by decide +kernel
theorem dL_by_1 : decode cL_by 1 = .ok (.bipush 10, 2) := by decide +kernel
theorem dL_by_3 : decode cL_by 3 = .ok (.lshr, 1) := by decide +kernel
theorem dL_by_4 : decode cL_by 4 = .ok (.ldc2_w 11, 3) := by decide +kernel
theorem dL_by_7 : decode cL_by 7 = .ok (.land, 1) := by decide +kernel
theorem dL_by_8 : decode cL_by 8 = .ok (.l2i, 1) := by decide +kernel
theorem dL_by_9 : decode cL_by 9 = .ok (.iconst 1, 1) := by decide +kernel
theorem dL_by_10 : decode cL_by 10 = .ok (.isub, 1) := by decide +kernel
theorem dL_by_11 : decode cL_by 11 = .ok (.ireturn, 1) := by decide +kernel
theorem dL_floor_0 : decode cL_floor 0 = .ok (.lload_n 0, 1) := by decide +kernel
theorem dL_floor_1 : decode cL_floor 1 = .ok (.ldc2_w 13, 3) := by decide +kernel
theorem dL_floor_4 : decode cL_floor 4 = .ok (.land, 1) := by decide +kernel
theorem dL_floor_5 : decode cL_floor 5 = .ok (.l2i, 1) := by decide +kernel
theorem dL_floor_6 : decode cL_floor 6 = .ok (.ireturn, 1) := by decide +kernel
theorem dL_goal_0 : decode cL_goal 0 = .ok (.lload_n 0, 1) := by decide +kernel
theorem dL_goal_1 : decode cL_goal 1 = .ok (.iconst 4, 1) := by decide +kernel
theorem dL_goal_2 : decode cL_goal 2 = .ok (.lshr, 1) := by decide +kernel
theorem dL_goal_3 : decode cL_goal 3 = .ok (.ldc2_w 13, 3) := by decide +kernel
theorem dL_goal_6 : decode cL_goal 6 = .ok (.land, 1) := by decide +kernel
theorem dL_goal_7 : decode cL_goal 7 = .ok (.l2i, 1) := by decide +kernel
theorem dL_goal_8 : decode cL_goal 8 = .ok (.ireturn, 1) := by decide +kernel
theorem dL_far_0 : decode cL_far 0 = .ok (.iload_n 0, 1) := by decide +kernel
theorem dL_far_1 : decode cL_far 1 = .ok (.iload_n 1, 1) := by decide +kernel
theorem dL_far_2 : decode cL_far 2 = .ok (.if_icmp .le 9, 3) := by decide +kernel
theorem dL_far_5 : decode cL_far 5 = .ok (.iload_n 0, 1) := by decide +kernel
theorem dL_far_6 : decode cL_far 6 = .ok (.iload_n 1, 1) := by decide +kernel
theorem dL_far_7 : decode cL_far 7 = .ok (.isub, 1) := by decide +kernel
theorem dL_far_8 : decode cL_far 8 = .ok (.goto 6, 3) := by decide +kernel
theorem dL_far_11 : decode cL_far 11 = .ok (.iload_n 1, 1) := by decide +kernel
theorem dL_far_12 : decode cL_far 12 = .ok (.iload_n 0, 1) := by decide +kernel
theorem dL_far_13 : decode cL_far 13 = .ok (.isub, 1) := by decide +kernel
theorem dL_far_14 : decode cL_far 14 = .ok (.ireturn, 1) := by decide +kernel
set_option maxRecDepth 20000 in
theorem ggL_those_L_is : GoodIn wsL_those wsL_is := goodIn_r _ [4, 5] (by decide +kernel) (by decide +kernel)
set_option maxRecDepth 20000 in
theorem gL_those_L_is : GoodIn wsL_those (va_wsS RL 15 yL_is wsL_is) := goodIn_app (goodIn_of _ (by decide +kernel)) ggL_those_L_is
set_option maxRecDepth 20000 in
theorem ggL_those_L_by : GoodIn wsL_those wsL_by := goodIn_r _ [8, 9] (by decide +kernel) (by decide +kernel)
set_option maxRecDepth 20000 in
theorem gL_those_L_by : GoodIn wsL_those (va_wsS RL 21 yL_by wsL_by) := goodIn_app (goodIn_of _ (by decide +kernel)) ggL_those_L_by
theorem dL_those_0 : decode cL_those 0 = .ok (.iconst 0, 1) := by decide +kernel
theorem dL_those_1 : decode cL_those 1 = .ok (.istore 4, 2) := by decide +kernel
theorem dL_those_3 : decode cL_those 3 = .ok (.iconst 0, 1) := by decide +kernel
theorem dL_those_4 : decode cL_those 4 = .ok (.istore 5, 2) := by decide +kernel
theorem dL_those_6 : decode cL_those 6 = .ok (.iload 5, 2) := by decide +kernel
theorem dL_those_8 : decode cL_those 8 = .ok (.aload_n 0, 1) := by decide +kernel
theorem dL_those_9 : decode cL_those 9 = .ok (.iconst 2, 1) := by decide +kernel
theorem dL_those_10 : decode cL_those 10 = .ok (.iaload, 1) := by decide +kernel
theorem dL_those_11 : decode cL_those 11 = .ok (.if_icmp .ge 45, 3) := by decide +kernel
theorem dL_those_14 : decode cL_those 14 = .ok (.iload 4, 2) := by decide +kernel
theorem dL_those_16 : decode cL_those 16 = .ok (.aload_n 1, 1) := by decide +kernel
theorem dL_those_17 : decode cL_those 17 = .ok (.iload 5, 2) := by decide +kernel
theorem dL_those_19 : decode cL_those 19 = .ok (.laload, 1) := by decide +kernel
theorem dL_those_20 : decode cL_those 20 = .ok (.invokestatic 15, 3) := by decide +kernel
theorem dL_those_23 : decode cL_those 23 = .ok (.iload_n 3, 1) := by decide +kernel
theorem dL_those_24 : decode cL_those 24 = .ok (.if_icmp .ne 22, 3) := by decide +kernel
theorem dL_those_27 : decode cL_those 27 = .ok (.iload_n 2, 1) := by decide +kernel
theorem dL_those_28 : decode cL_those 28 = .ok (.ifCond .lt 14, 3) := by decide +kernel
theorem dL_those_31 : decode cL_those 31 = .ok (.aload_n 1, 1) := by decide +kernel
theorem dL_those_32 : decode cL_those 32 = .ok (.iload 5, 2) := by decide +kernel
theorem dL_those_34 : decode cL_those 34 = .ok (.laload, 1) := by decide +kernel
theorem dL_those_35 : decode cL_those 35 = .ok (.invokestatic 21, 3) := by decide +kernel
theorem dL_those_38 : decode cL_those 38 = .ok (.iload_n 2, 1) := by decide +kernel
theorem dL_those_39 : decode cL_those 39 = .ok (.if_icmp .ne 7, 3) := by decide +kernel
theorem dL_those_42 : decode cL_those 42 = .ok (.iconst 1, 1) := by decide +kernel
theorem dL_those_43 : decode cL_those 43 = .ok (.goto 4, 3) := by decide +kernel
theorem dL_those_46 : decode cL_those 46 = .ok (.iconst 0, 1) := by decide +kernel
theorem dL_those_47 : decode cL_those 47 = .ok (.iadd, 1) := by decide +kernel
theorem dL_those_48 : decode cL_those 48 = .ok (.istore 4, 2) := by decide +kernel
theorem dL_those_50 : decode cL_those 50 = .ok (.iinc 5 1, 3) := by decide +kernel
theorem dL_those_53 : decode cL_those 53 = .ok (.goto (-47), 3) := by decide +kernel
theorem dL_those_56 : decode cL_those 56 = .ok (.iload 4, 2) := by decide +kernel
theorem dL_those_58 : decode cL_those 58 = .ok (.ireturn, 1) := by decide +kernel
set_option maxRecDepth 20000 in
theorem ggL_stops_L_by : GoodIn wsL_stops wsL_by := goodIn_r _ [4, 5] (by decide +kernel) (by decide +kernel)
set_option maxRecDepth 20000 in
theorem gL_stops_L_by : GoodIn wsL_stops (va_wsS RL 21 yL_by wsL_by) := goodIn_app (goodIn_of _ (by decide +kernel)) ggL_stops_L_by
set_option maxRecDepth 20000 in
theorem ggL_stops_L_is : GoodIn wsL_stops wsL_is := goodIn_r _ [8, 9] (by decide +kernel) (by decide +kernel)
set_option maxRecDepth 20000 in
theorem gL_stops_L_is : GoodIn wsL_stops (va_wsS RL 15 yL_is wsL_is) := goodIn_app (goodIn_of _ (by decide +kernel)) ggL_stops_L_is
set_option maxRecDepth 20000 in
theorem ggL_stops_L_goal : GoodIn wsL_stops wsL_goal := goodIn_r _ [12, 13] (by decide +kernel) (by decide +kernel)
set_option maxRecDepth 20000 in
theorem gL_stops_L_goal : GoodIn wsL_stops (va_wsS RL 24 yL_goal wsL_goal) := goodIn_app (goodIn_of _ (by decide +kernel)) ggL_stops_L_goal
set_option maxRecDepth 20000 in
theorem ggL_stops_L_floor : GoodIn wsL_stops wsL_floor := goodIn_r _ [16, 13] (by decide +kernel) (by decide +kernel)
set_option maxRecDepth 20000 in
theorem gL_stops_L_floor : GoodIn wsL_stops (va_wsS RL 27 yL_floor wsL_floor) := goodIn_app (goodIn_of _ (by decide +kernel)) ggL_stops_L_floor
theorem dL_stops_0 : decode cL_stops 0 = .ok (.iload_n 3, 1) := by decide +kernel
theorem dL_stops_1 : decode cL_stops 1 = .ok (.istore 4, 2) := by decide +kernel
theorem dL_stops_3 : decode cL_stops 3 = .ok (.iconst 0, 1) := by decide +kernel
theorem dL_stops_4 : decode cL_stops 4 = .ok (.istore 5, 2) := by decide +kernel
theorem dL_stops_6 : decode cL_stops 6 = .ok (.iconst 0, 1) := by decide +kernel
theorem dL_stops_7 : decode cL_stops 7 = .ok (.istore 6, 2) := by decide +kernel
theorem dL_stops_9 : decode cL_stops 9 = .ok (.iload 6, 2) := by decide +kernel
theorem dL_stops_11 : decode cL_stops 11 = .ok (.aload_n 0, 1) := by decide +kernel
theorem dL_stops_12 : decode cL_stops 12 = .ok (.iconst 2, 1) := by decide +kernel
theorem dL_stops_13 : decode cL_stops 13 = .ok (.iaload, 1) := by decide +kernel
theorem dL_stops_14 : decode cL_stops 14 = .ok (.if_icmp .ge 106, 3) := by decide +kernel
theorem dL_stops_17 : decode cL_stops 17 = .ok (.aload_n 1, 1) := by decide +kernel
theorem dL_stops_18 : decode cL_stops 18 = .ok (.iload 6, 2) := by decide +kernel
theorem dL_stops_20 : decode cL_stops 20 = .ok (.laload, 1) := by decide +kernel
theorem dL_stops_21 : decode cL_stops 21 = .ok (.invokestatic 21, 3) := by decide +kernel
theorem dL_stops_24 : decode cL_stops 24 = .ok (.iload_n 2, 1) := by decide +kernel
theorem dL_stops_25 : decode cL_stops 25 = .ok (.if_icmp .ne 29, 3) := by decide +kernel
theorem dL_stops_28 : decode cL_stops 28 = .ok (.aload_n 1, 1) := by decide +kernel
theorem dL_stops_29 : decode cL_stops 29 = .ok (.iload 6, 2) := by decide +kernel
theorem dL_stops_31 : decode cL_stops 31 = .ok (.laload, 1) := by decide +kernel
theorem dL_stops_32 : decode cL_stops 32 = .ok (.invokestatic 15, 3) := by decide +kernel
theorem dL_stops_35 : decode cL_stops 35 = .ok (.iconst 1, 1) := by decide +kernel
theorem dL_stops_36 : decode cL_stops 36 = .ok (.if_icmp .eq 14, 3) := by decide +kernel
theorem dL_stops_39 : decode cL_stops 39 = .ok (.aload_n 1, 1) := by decide +kernel
theorem dL_stops_40 : decode cL_stops 40 = .ok (.iload 6, 2) := by decide +kernel
theorem dL_stops_42 : decode cL_stops 42 = .ok (.laload, 1) := by decide +kernel
theorem dL_stops_43 : decode cL_stops 43 = .ok (.invokestatic 15, 3) := by decide +kernel
theorem dL_stops_46 : decode cL_stops 46 = .ok (.iconst 2, 1) := by decide +kernel
theorem dL_stops_47 : decode cL_stops 47 = .ok (.if_icmp .ne 7, 3) := by decide +kernel
theorem dL_stops_50 : decode cL_stops 50 = .ok (.iconst 1, 1) := by decide +kernel
theorem dL_stops_51 : decode cL_stops 51 = .ok (.goto 4, 3) := by decide +kernel
theorem dL_stops_54 : decode cL_stops 54 = .ok (.iconst 0, 1) := by decide +kernel
theorem dL_stops_55 : decode cL_stops 55 = .ok (.istore 7, 2) := by decide +kernel
theorem dL_stops_57 : decode cL_stops 57 = .ok (.iload 4, 2) := by decide +kernel
theorem dL_stops_59 : decode cL_stops 59 = .ok (.iload 7, 2) := by decide +kernel
theorem dL_stops_61 : decode cL_stops 61 = .ok (.ifCond .eq 15, 3) := by decide +kernel
theorem dL_stops_64 : decode cL_stops 64 = .ok (.iconst 1, 1) := by decide +kernel
theorem dL_stops_65 : decode cL_stops 65 = .ok (.aload_n 1, 1) := by decide +kernel
theorem dL_stops_66 : decode cL_stops 66 = .ok (.iload 6, 2) := by decide +kernel
theorem dL_stops_68 : decode cL_stops 68 = .ok (.laload, 1) := by decide +kernel
theorem dL_stops_69 : decode cL_stops 69 = .ok (.invokestatic 24, 3) := by decide +kernel
theorem dL_stops_72 : decode cL_stops 72 = .ok (.ishl, 1) := by decide +kernel
theorem dL_stops_73 : decode cL_stops 73 = .ok (.goto 4, 3) := by decide +kernel
theorem dL_stops_76 : decode cL_stops 76 = .ok (.iconst 0, 1) := by decide +kernel
theorem dL_stops_77 : decode cL_stops 77 = .ok (.ior, 1) := by decide +kernel
theorem dL_stops_78 : decode cL_stops 78 = .ok (.istore 4, 2) := by decide +kernel
theorem dL_stops_80 : decode cL_stops 80 = .ok (.iload 4, 2) := by decide +kernel
theorem dL_stops_82 : decode cL_stops 82 = .ok (.iload 7, 2) := by decide +kernel
theorem dL_stops_84 : decode cL_stops 84 = .ok (.ifCond .eq 26, 3) := by decide +kernel
theorem dL_stops_87 : decode cL_stops 87 = .ok (.aload_n 1, 1) := by decide +kernel
theorem dL_stops_88 : decode cL_stops 88 = .ok (.iload 6, 2) := by decide +kernel
theorem dL_stops_90 : decode cL_stops 90 = .ok (.laload, 1) := by decide +kernel
theorem dL_stops_91 : decode cL_stops 91 = .ok (.invokestatic 15, 3) := by decide +kernel
theorem dL_stops_94 : decode cL_stops 94 = .ok (.iconst 1, 1) := by decide +kernel
theorem dL_stops_95 : decode cL_stops 95 = .ok (.if_icmp .ne 15, 3) := by decide +kernel
theorem dL_stops_98 : decode cL_stops 98 = .ok (.iconst 1, 1) := by decide +kernel
theorem dL_stops_99 : decode cL_stops 99 = .ok (.aload_n 1, 1) := by decide +kernel
theorem dL_stops_100 : decode cL_stops 100 = .ok (.iload 6, 2) := by decide +kernel
theorem dL_stops_102 : decode cL_stops 102 = .ok (.laload, 1) := by decide +kernel
theorem dL_stops_103 : decode cL_stops 103 = .ok (.invokestatic 27, 3) := by decide +kernel
theorem dL_stops_106 : decode cL_stops 106 = .ok (.ishl, 1) := by decide +kernel
theorem dL_stops_107 : decode cL_stops 107 = .ok (.goto 4, 3) := by decide +kernel
theorem dL_stops_110 : decode cL_stops 110 = .ok (.iconst 0, 1) := by decide +kernel
theorem dL_stops_111 : decode cL_stops 111 = .ok (.ior, 1) := by decide +kernel
theorem dL_stops_112 : decode cL_stops 112 = .ok (.istore 4, 2) := by decide +kernel
theorem dL_stops_114 : decode cL_stops 114 = .ok (.iinc 6 1, 3) := by decide +kernel
theorem dL_stops_117 : decode cL_stops 117 = .ok (.goto (-108), 3) := by decide +kernel
theorem dL_stops_120 : decode cL_stops 120 = .ok (.iconst 0, 1) := by decide +kernel
theorem dL_stops_121 : decode cL_stops 121 = .ok (.istore 6, 2) := by decide +kernel
theorem dL_stops_123 : decode cL_stops 123 = .ok (.iload 6, 2) := by decide +kernel
theorem dL_stops_125 : decode cL_stops 125 = .ok (.bipush 16, 2) := by decide +kernel
theorem dL_stops_127 : decode cL_stops 127 = .ok (.if_icmp .ge 21, 3) := by decide +kernel
theorem dL_stops_130 : decode cL_stops 130 = .ok (.iload 5, 2) := by decide +kernel
theorem dL_stops_132 : decode cL_stops 132 = .ok (.iload 4, 2) := by decide +kernel
theorem dL_stops_134 : decode cL_stops 134 = .ok (.iload 6, 2) := by decide +kernel
theorem dL_stops_136 : decode cL_stops 136 = .ok (.ishr, 1) := by decide +kernel
theorem dL_stops_137 : decode cL_stops 137 = .ok (.iconst 1, 1) := by decide +kernel
theorem dL_stops_138 : decode cL_stops 138 = .ok (.iand, 1) := by decide +kernel
theorem dL_stops_139 : decode cL_stops 139 = .ok (.iadd, 1) := by decide +kernel
theorem dL_stops_140 : decode cL_stops 140 = .ok (.istore 5, 2) := by decide +kernel
theorem dL_stops_142 : decode cL_stops 142 = .ok (.iinc 6 1, 3) := by decide +kernel
theorem dL_stops_145 : decode cL_stops 145 = .ok (.goto (-22), 3) := by decide +kernel
theorem dL_stops_148 : decode cL_stops 148 = .ok (.iload 5, 2) := by decide +kernel
theorem dL_stops_150 : decode cL_stops 150 = .ok (.ireturn, 1) := by decide +kernel
set_option maxRecDepth 20000 in
theorem ggL_cost_L_far : GoodIn wsL_cost wsL_far := goodIn_r _ [4] (by decide +kernel) (by decide +kernel)
set_option maxRecDepth 20000 in
theorem gL_cost_L_far : GoodIn wsL_cost (va_wsS RL 30 yL_far wsL_far) := goodIn_app (goodIn_of _ (by decide +kernel)) ggL_cost_L_far
set_option maxRecDepth 20000 in
theorem ggL_cost_L_stops : GoodIn wsL_cost wsL_stops := goodIn_r _ [7, 8, 9, 3, 10, 11, 12, 13, 14, 15, 16, 17, 18, 19, 20, 21, 22] (by decide +kernel) (by decide +kernel)
set_option maxRecDepth 20000 in
theorem gL_cost_L_stops : GoodIn wsL_cost (va_wsS RL 34 yL_stops wsL_stops) := goodIn_app (goodIn_of _ (by decide +kernel)) ggL_cost_L_stops
set_option maxRecDepth 20000 in
theorem ggL_cost_L_those : GoodIn wsL_cost wsL_those := goodIn_r _ [25, 12, 13, 3, 14, 15, 8, 9, 10, 11] (by decide +kernel) (by decide +kernel)
set_option maxRecDepth 20000 in
theorem gL_cost_L_those : GoodIn wsL_cost (va_wsS RL 38 yL_those wsL_those) := goodIn_app (goodIn_of _ (by decide +kernel)) ggL_cost_L_those
theorem dL_cost_0 : decode cL_cost 0 = .ok (.bipush 6, 2) := by decide +kernel
theorem dL_cost_2 : decode cL_cost 2 = .ok (.iload 4, 2) := by decide +kernel
theorem dL_cost_4 : decode cL_cost 4 = .ok (.imul, 1) := by decide +kernel
theorem dL_cost_5 : decode cL_cost 5 = .ok (.istore 7, 2) := by decide +kernel
theorem dL_cost_7 : decode cL_cost 7 = .ok (.iload 5, 2) := by decide +kernel
theorem dL_cost_9 : decode cL_cost 9 = .ok (.iload 6, 2) := by decide +kernel
theorem dL_cost_11 : decode cL_cost 11 = .ok (.if_icmp .ge 8, 3) := by decide +kernel
theorem dL_cost_14 : decode cL_cost 14 = .ok (.iload 5, 2) := by decide +kernel
theorem dL_cost_16 : decode cL_cost 16 = .ok (.goto 5, 3) := by decide +kernel
theorem dL_cost_19 : decode cL_cost 19 = .ok (.iload 6, 2) := by decide +kernel
theorem dL_cost_21 : decode cL_cost 21 = .ok (.istore 8, 2) := by decide +kernel
theorem dL_cost_23 : decode cL_cost 23 = .ok (.iload 5, 2) := by decide +kernel
theorem dL_cost_25 : decode cL_cost 25 = .ok (.iload 6, 2) := by decide +kernel
theorem dL_cost_27 : decode cL_cost 27 = .ok (.if_icmp .ge 8, 3) := by decide +kernel
theorem dL_cost_30 : decode cL_cost 30 = .ok (.iload 6, 2) := by decide +kernel
theorem dL_cost_32 : decode cL_cost 32 = .ok (.goto 5, 3) := by decide +kernel
theorem dL_cost_35 : decode cL_cost 35 = .ok (.iload 5, 2) := by decide +kernel
theorem dL_cost_37 : decode cL_cost 37 = .ok (.istore 9, 2) := by decide +kernel
theorem dL_cost_39 : decode cL_cost 39 = .ok (.aload_n 2, 1) := by decide +kernel
theorem dL_cost_40 : decode cL_cost 40 = .ok (.iload 7, 2) := by decide +kernel
theorem dL_cost_42 : decode cL_cost 42 = .ok (.iconst 4, 1) := by decide +kernel
theorem dL_cost_43 : decode cL_cost 43 = .ok (.iadd, 1) := by decide +kernel
theorem dL_cost_44 : decode cL_cost 44 = .ok (.iaload, 1) := by decide +kernel
theorem dL_cost_45 : decode cL_cost 45 = .ok (.ifCond .ne 39, 3) := by decide +kernel
theorem dL_cost_48 : decode cL_cost 48 = .ok (.iload 4, 2) := by decide +kernel
theorem dL_cost_50 : decode cL_cost 50 = .ok (.aload_n 1, 1) := by decide +kernel
theorem dL_cost_51 : decode cL_cost 51 = .ok (.aload_n 0, 1) := by decide +kernel
theorem dL_cost_52 : decode cL_cost 52 = .ok (.iconst 0, 1) := by decide +kernel
theorem dL_cost_53 : decode cL_cost 53 = .ok (.iaload, 1) := by decide +kernel
theorem dL_cost_54 : decode cL_cost 54 = .ok (.bipush 60, 2) := by decide +kernel
theorem dL_cost_56 : decode cL_cost 56 = .ok (.idiv, 1) := by decide +kernel
theorem dL_cost_57 : decode cL_cost 57 = .ok (.bipush 24, 2) := by decide +kernel
theorem dL_cost_59 : decode cL_cost 59 = .ok (.irem, 1) := by decide +kernel
theorem dL_cost_60 : decode cL_cost 60 = .ok (.iaload, 1) := by decide +kernel
theorem dL_cost_61 : decode cL_cost 61 = .ok (.if_icmp .ge 23, 3) := by decide +kernel
theorem dL_cost_64 : decode cL_cost 64 = .ok (.iload 8, 2) := by decide +kernel
theorem dL_cost_66 : decode cL_cost 66 = .ok (.aload_n 2, 1) := by decide +kernel
theorem dL_cost_67 : decode cL_cost 67 = .ok (.iload 7, 2) := by decide +kernel
theorem dL_cost_69 : decode cL_cost 69 = .ok (.iaload, 1) := by decide +kernel
theorem dL_cost_70 : decode cL_cost 70 = .ok (.if_icmp .lt 14, 3) := by decide +kernel
theorem dL_cost_73 : decode cL_cost 73 = .ok (.iload 9, 2) := by decide +kernel
theorem dL_cost_75 : decode cL_cost 75 = .ok (.aload_n 2, 1) := by decide +kernel
theorem dL_cost_76 : decode cL_cost 76 = .ok (.iload 7, 2) := by decide +kernel
theorem dL_cost_78 : decode cL_cost 78 = .ok (.iconst 1, 1) := by decide +kernel
theorem dL_cost_79 : decode cL_cost 79 = .ok (.iadd, 1) := by decide +kernel
theorem dL_cost_80 : decode cL_cost 80 = .ok (.iaload, 1) := by decide +kernel
theorem dL_cost_81 : decode cL_cost 81 = .ok (.if_icmp .le 6, 3) := by decide +kernel
theorem dL_cost_84 : decode cL_cost 84 = .ok (.bipush (-9), 2) := by decide +kernel
theorem dL_cost_86 : decode cL_cost 86 = .ok (.ireturn, 1) := by decide +kernel
theorem dL_cost_87 : decode cL_cost 87 = .ok (.aload_n 2, 1) := by decide +kernel
theorem dL_cost_88 : decode cL_cost 88 = .ok (.iload 7, 2) := by decide +kernel
theorem dL_cost_90 : decode cL_cost 90 = .ok (.iconst 3, 1) := by decide +kernel
theorem dL_cost_91 : decode cL_cost 91 = .ok (.iadd, 1) := by decide +kernel
theorem dL_cost_92 : decode cL_cost 92 = .ok (.iaload, 1) := by decide +kernel
theorem dL_cost_93 : decode cL_cost 93 = .ok (.iload 5, 2) := by decide +kernel
theorem dL_cost_95 : decode cL_cost 95 = .ok (.invokestatic 30, 3) := by decide +kernel
theorem dL_cost_98 : decode cL_cost 98 = .ok (.iconst 2, 1) := by decide +kernel
theorem dL_cost_99 : decode cL_cost 99 = .ok (.aload_n 0, 1) := by decide +kernel
theorem dL_cost_100 : decode cL_cost 100 = .ok (.aload_n 3, 1) := by decide +kernel
theorem dL_cost_101 : decode cL_cost 101 = .ok (.iload 4, 2) := by decide +kernel
theorem dL_cost_103 : decode cL_cost 103 = .ok (.iconst 1, 1) := by decide +kernel
theorem dL_cost_104 : decode cL_cost 104 = .ok (.iload 5, 2) := by decide +kernel
theorem dL_cost_106 : decode cL_cost 106 = .ok (.ishl, 1) := by decide +kernel
theorem dL_cost_107 : decode cL_cost 107 = .ok (.iconst 1, 1) := by decide +kernel
theorem dL_cost_108 : decode cL_cost 108 = .ok (.iload 6, 2) := by decide +kernel
theorem dL_cost_110 : decode cL_cost 110 = .ok (.ishl, 1) := by decide +kernel
theorem dL_cost_111 : decode cL_cost 111 = .ok (.ior, 1) := by decide +kernel
theorem dL_cost_112 : decode cL_cost 112 = .ok (.invokestatic 34, 3) := by decide +kernel
theorem dL_cost_115 : decode cL_cost 115 = .ok (.imul, 1) := by decide +kernel
theorem dL_cost_116 : decode cL_cost 116 = .ok (.iadd, 1) := by decide +kernel
theorem dL_cost_117 : decode cL_cost 117 = .ok (.aload_n 0, 1) := by decide +kernel
theorem dL_cost_118 : decode cL_cost 118 = .ok (.aload_n 3, 1) := by decide +kernel
theorem dL_cost_119 : decode cL_cost 119 = .ok (.iload 4, 2) := by decide +kernel
theorem dL_cost_121 : decode cL_cost 121 = .ok (.iconst 1, 1) := by decide +kernel
theorem dL_cost_122 : decode cL_cost 122 = .ok (.invokestatic 38, 3) := by decide +kernel
theorem dL_cost_125 : decode cL_cost 125 = .ok (.iadd, 1) := by decide +kernel
theorem dL_cost_126 : decode cL_cost 126 = .ok (.aload_n 0, 1) := by decide +kernel
theorem dL_cost_127 : decode cL_cost 127 = .ok (.aload_n 3, 1) := by decide +kernel
theorem dL_cost_128 : decode cL_cost 128 = .ok (.iload 4, 2) := by decide +kernel
theorem dL_cost_130 : decode cL_cost 130 = .ok (.iconst 2, 1) := by decide +kernel
theorem dL_cost_131 : decode cL_cost 131 = .ok (.invokestatic 38, 3) := by decide +kernel
theorem dL_cost_134 : decode cL_cost 134 = .ok (.iadd, 1) := by decide +kernel
theorem dL_cost_135 : decode cL_cost 135 = .ok (.ireturn, 1) := by decide +kernel
set_option maxRecDepth 20000 in
theorem ggL_which_L_cost : GoodIn wsL_which wsL_cost := goodIn_r _ [4, 5, 6, 3, 7, 8, 9, 10, 11, 12, 13, 14, 15, 16, 17, 18, 19, 20, 21, 22, 23, 24, 25, 26, 27, 28] (by decide +kernel) (by decide +kernel)
set_option maxRecDepth 20000 in
theorem gL_which_L_cost : GoodIn wsL_which (va_wsS RL 41 yL_cost wsL_cost) := goodIn_app (goodIn_of _ (by decide +kernel)) ggL_which_L_cost
theorem dL_which_0 : decode cL_which 0 = .ok (.bipush (-9), 2) := by decide +kernel
theorem dL_which_2 : decode cL_which 2 = .ok (.istore 6, 2) := by decide +kernel
theorem dL_which_4 : decode cL_which 4 = .ok (.sipush 9999, 3) := by decide +kernel
theorem dL_which_7 : decode cL_which 7 = .ok (.istore 7, 2) := by decide +kernel
theorem dL_which_9 : decode cL_which 9 = .ok (.aload_n 0, 1) := by decide +kernel
theorem dL_which_10 : decode cL_which 10 = .ok (.iconst 1, 1) := by decide +kernel
theorem dL_which_11 : decode cL_which 11 = .ok (.iaload, 1) := by decide +kernel
theorem dL_which_12 : decode cL_which 12 = .ok (.iconst 1, 1) := by decide +kernel
theorem dL_which_13 : decode cL_which 13 = .ok (.isub, 1) := by decide +kernel
theorem dL_which_14 : decode cL_which 14 = .ok (.istore 8, 2) := by decide +kernel
theorem dL_which_16 : decode cL_which 16 = .ok (.iload 8, 2) := by decide +kernel
theorem dL_which_18 : decode cL_which 18 = .ok (.ifCond .lt 66, 3) := by decide +kernel
theorem dL_which_21 : decode cL_which 21 = .ok (.aload_n 0, 1) := by decide +kernel
theorem dL_which_22 : decode cL_which 22 = .ok (.aload_n 1, 1) := by decide +kernel
theorem dL_which_23 : decode cL_which 23 = .ok (.aload_n 2, 1) := by decide +kernel
theorem dL_which_24 : decode cL_which 24 = .ok (.aload_n 3, 1) := by decide +kernel
theorem dL_which_25 : decode cL_which 25 = .ok (.iload 8, 2) := by decide +kernel
theorem dL_which_27 : decode cL_which 27 = .ok (.iload 4, 2) := by decide +kernel
theorem dL_which_29 : decode cL_which 29 = .ok (.iload 5, 2) := by decide +kernel
theorem dL_which_31 : decode cL_which 31 = .ok (.invokestatic 41, 3) := by decide +kernel
theorem dL_which_34 : decode cL_which 34 = .ok (.istore 9, 2) := by decide +kernel
theorem dL_which_36 : decode cL_which 36 = .ok (.iload 9, 2) := by decide +kernel
theorem dL_which_38 : decode cL_which 38 = .ok (.ifCond .lt 15, 3) := by decide +kernel
theorem dL_which_41 : decode cL_which 41 = .ok (.iload 9, 2) := by decide +kernel
theorem dL_which_43 : decode cL_which 43 = .ok (.iload 7, 2) := by decide +kernel
theorem dL_which_45 : decode cL_which 45 = .ok (.if_icmp .gt 8, 3) := by decide +kernel
theorem dL_which_48 : decode cL_which 48 = .ok (.iload 8, 2) := by decide +kernel
theorem dL_which_50 : decode cL_which 50 = .ok (.goto 5, 3) := by decide +kernel
theorem dL_which_53 : decode cL_which 53 = .ok (.iload 6, 2) := by decide +kernel
theorem dL_which_55 : decode cL_which 55 = .ok (.istore 6, 2) := by decide +kernel
theorem dL_which_57 : decode cL_which 57 = .ok (.iload 9, 2) := by decide +kernel
theorem dL_which_59 : decode cL_which 59 = .ok (.ifCond .lt 15, 3) := by decide +kernel
theorem dL_which_62 : decode cL_which 62 = .ok (.iload 9, 2) := by decide +kernel
theorem dL_which_64 : decode cL_which 64 = .ok (.iload 7, 2) := by decide +kernel
theorem dL_which_66 : decode cL_which 66 = .ok (.if_icmp .gt 8, 3) := by decide +kernel
theorem dL_which_69 : decode cL_which 69 = .ok (.iload 9, 2) := by decide +kernel
theorem dL_which_71 : decode cL_which 71 = .ok (.goto 5, 3) := by decide +kernel
theorem dL_which_74 : decode cL_which 74 = .ok (.iload 7, 2) := by decide +kernel
theorem dL_which_76 : decode cL_which 76 = .ok (.istore 7, 2) := by decide +kernel
theorem dL_which_78 : decode cL_which 78 = .ok (.iinc 8 (-1), 3) := by decide +kernel
theorem dL_which_81 : decode cL_which 81 = .ok (.goto (-65), 3) := by decide +kernel
theorem dL_which_84 : decode cL_which 84 = .ok (.iload 6, 2) := by decide +kernel
theorem dL_which_86 : decode cL_which 86 = .ok (.ireturn, 1) := by decide +kernel
set_option maxRecDepth 20000 in
theorem ggL_gives_L_floor : GoodIn wsL_gives wsL_floor := goodIn_r _ [6, 7] (by decide +kernel) (by decide +kernel)
set_option maxRecDepth 20000 in
theorem gL_gives_L_floor : GoodIn wsL_gives (va_wsS RL 27 yL_floor wsL_floor) := goodIn_app (goodIn_of _ (by decide +kernel)) ggL_gives_L_floor
set_option maxRecDepth 20000 in
theorem ggL_gives_L_goal : GoodIn wsL_gives wsL_goal := goodIn_r _ [10, 7] (by decide +kernel) (by decide +kernel)
set_option maxRecDepth 20000 in
theorem gL_gives_L_goal : GoodIn wsL_gives (va_wsS RL 24 yL_goal wsL_goal) := goodIn_app (goodIn_of _ (by decide +kernel)) ggL_gives_L_goal
set_option maxRecDepth 20000 in
theorem ggL_gives_L_which : GoodIn wsL_gives wsL_which := goodIn_r _ [13, 14, 15, 5, 16, 17, 18, 19, 20, 21, 22, 23, 24, 25, 26, 27, 28, 29, 30, 8, 9, 10, 7, 3, 4, 6, 31, 32, 33] (by decide +kernel) (by decide +kernel)
set_option maxRecDepth 20000 in
theorem gL_gives_L_which : GoodIn wsL_gives (va_wsS RL 45 yL_which wsL_which) := goodIn_app (goodIn_of _ (by decide +kernel)) ggL_gives_L_which
theorem dL_gives_0 : decode cL_gives 0 = .ok (.aload_n 0, 1) := by decide +kernel
theorem dL_gives_1 : decode cL_gives 1 = .ok (.aload_n 1, 1) := by decide +kernel
theorem dL_gives_2 : decode cL_gives 2 = .ok (.aload_n 2, 1) := by decide +kernel
theorem dL_gives_3 : decode cL_gives 3 = .ok (.aload_n 3, 1) := by decide +kernel
theorem dL_gives_4 : decode cL_gives 4 = .ok (.aload_n 3, 1) := by decide +kernel
theorem dL_gives_5 : decode cL_gives 5 = .ok (.iload 4, 2) := by decide +kernel
theorem dL_gives_7 : decode cL_gives 7 = .ok (.laload, 1) := by decide +kernel
theorem dL_gives_8 : decode cL_gives 8 = .ok (.invokestatic 27, 3) := by decide +kernel
theorem dL_gives_11 : decode cL_gives 11 = .ok (.aload_n 3, 1) := by decide +kernel
theorem dL_gives_12 : decode cL_gives 12 = .ok (.iload 4, 2) := by decide +kernel
theorem dL_gives_14 : decode cL_gives 14 = .ok (.laload, 1) := by decide +kernel
theorem dL_gives_15 : decode cL_gives 15 = .ok (.invokestatic 24, 3) := by decide +kernel
theorem dL_gives_18 : decode cL_gives 18 = .ok (.invokestatic 45, 3) := by decide +kernel
theorem dL_gives_21 : decode cL_gives 21 = .ok (.istore 5, 2) := by decide +kernel
theorem dL_gives_23 : decode cL_gives 23 = .ok (.iload 5, 2) := by decide +kernel
theorem dL_gives_25 : decode cL_gives 25 = .ok (.ifCond .lt 26, 3) := by decide +kernel
theorem dL_gives_28 : decode cL_gives 28 = .ok (.aload_n 3, 1) := by decide +kernel
theorem dL_gives_29 : decode cL_gives 29 = .ok (.iload 4, 2) := by decide +kernel
theorem dL_gives_31 : decode cL_gives 31 = .ok (.dup2, 1) := by decide +kernel
theorem dL_gives_32 : decode cL_gives 32 = .ok (.laload, 1) := by decide +kernel
theorem dL_gives_33 : decode cL_gives 33 = .ok (.ldc2_w 49, 3) := by decide +kernel
theorem dL_gives_36 : decode cL_gives 36 = .ok (.iload 5, 2) := by decide +kernel
theorem dL_gives_38 : decode cL_gives 38 = .ok (.i2l, 1) := by decide +kernel
theorem dL_gives_39 : decode cL_gives 39 = .ok (.lconst 1, 1) := by decide +kernel
theorem dL_gives_40 : decode cL_gives 40 = .ok (.ladd, 1) := by decide +kernel
theorem dL_gives_41 : decode cL_gives 41 = .ok (.bipush 10, 2) := by decide +kernel
theorem dL_gives_43 : decode cL_gives 43 = .ok (.lshl, 1) := by decide +kernel
theorem dL_gives_44 : decode cL_gives 44 = .ok (.ladd, 1) := by decide +kernel
theorem dL_gives_45 : decode cL_gives 45 = .ok (.ldc2_w 51, 3) := by decide +kernel
theorem dL_gives_48 : decode cL_gives 48 = .ok (.ladd, 1) := by decide +kernel
theorem dL_gives_49 : decode cL_gives 49 = .ok (.ladd, 1) := by decide +kernel
theorem dL_gives_50 : decode cL_gives 50 = .ok (.lastore, 1) := by decide +kernel
theorem dL_gives_51 : decode cL_gives 51 = .ok (.return_, 1) := by decide +kernel
set_option maxRecDepth 20000 in
theorem ggL_aim_L_is : GoodIn wsL_aim wsL_is := goodIn_r _ [4, 5] (by decide +kernel) (by decide +kernel)
set_option maxRecDepth 20000 in
theorem gL_aim_L_is : GoodIn wsL_aim (va_wsS RL 15 yL_is wsL_is) := goodIn_app (goodIn_of _ (by decide +kernel)) ggL_aim_L_is
set_option maxRecDepth 20000 in
theorem ggL_aim_L_by : GoodIn wsL_aim wsL_by := goodIn_r _ [8, 9] (by decide +kernel) (by decide +kernel)
set_option maxRecDepth 20000 in
theorem gL_aim_L_by : GoodIn wsL_aim (va_wsS RL 21 yL_by wsL_by) := goodIn_app (goodIn_of _ (by decide +kernel)) ggL_aim_L_by
set_option maxRecDepth 20000 in
theorem ggL_aim_L_goal : GoodIn wsL_aim wsL_goal := goodIn_r _ [12, 13] (by decide +kernel) (by decide +kernel)
set_option maxRecDepth 20000 in
theorem gL_aim_L_goal : GoodIn wsL_aim (va_wsS RL 24 yL_goal wsL_goal) := goodIn_app (goodIn_of _ (by decide +kernel)) ggL_aim_L_goal
set_option maxRecDepth 20000 in
theorem ggL_aim_L_floor : GoodIn wsL_aim wsL_floor := goodIn_r _ [16, 13] (by decide +kernel) (by decide +kernel)
set_option maxRecDepth 20000 in
theorem gL_aim_L_floor : GoodIn wsL_aim (va_wsS RL 27 yL_floor wsL_floor) := goodIn_app (goodIn_of _ (by decide +kernel)) ggL_aim_L_floor
theorem dL_aim_0 : decode cL_aim 0 = .ok (.aload_n 1, 1) := by decide +kernel
theorem dL_aim_1 : decode cL_aim 1 = .ok (.bipush 6, 2) := by decide +kernel
theorem dL_aim_3 : decode cL_aim 3 = .ok (.iload_n 3, 1) := by decide +kernel
theorem dL_aim_4 : decode cL_aim 4 = .ok (.imul, 1) := by decide +kernel
theorem dL_aim_5 : decode cL_aim 5 = .ok (.iconst 3, 1) := by decide +kernel
theorem dL_aim_6 : decode cL_aim 6 = .ok (.iadd, 1) := by decide +kernel
theorem dL_aim_7 : decode cL_aim 7 = .ok (.iaload, 1) := by decide +kernel
theorem dL_aim_8 : decode cL_aim 8 = .ok (.istore 4, 2) := by decide +kernel
theorem dL_aim_10 : decode cL_aim 10 = .ok (.iconst 0, 1) := by decide +kernel
theorem dL_aim_11 : decode cL_aim 11 = .ok (.istore 5, 2) := by decide +kernel
theorem dL_aim_13 : decode cL_aim 13 = .ok (.iload 5, 2) := by decide +kernel
theorem dL_aim_15 : decode cL_aim 15 = .ok (.bipush 16, 2) := by decide +kernel
theorem dL_aim_17 : decode cL_aim 17 = .ok (.if_icmp .ge 98, 3) := by decide +kernel
theorem dL_aim_20 : decode cL_aim 20 = .ok (.iconst 0, 1) := by decide +kernel
theorem dL_aim_21 : decode cL_aim 21 = .ok (.istore 6, 2) := by decide +kernel
theorem dL_aim_23 : decode cL_aim 23 = .ok (.iload 6, 2) := by decide +kernel
theorem dL_aim_25 : decode cL_aim 25 = .ok (.iconst 2, 1) := by decide +kernel
theorem dL_aim_26 : decode cL_aim 26 = .ok (.if_icmp .ge 83, 3) := by decide +kernel
theorem dL_aim_29 : decode cL_aim 29 = .ok (.iload 6, 2) := by decide +kernel
theorem dL_aim_31 : decode cL_aim 31 = .ok (.ifCond .ne 11, 3) := by decide +kernel
theorem dL_aim_34 : decode cL_aim 34 = .ok (.iload 4, 2) := by decide +kernel
theorem dL_aim_36 : decode cL_aim 36 = .ok (.iload 5, 2) := by decide +kernel
theorem dL_aim_38 : decode cL_aim 38 = .ok (.isub, 1) := by decide +kernel
theorem dL_aim_39 : decode cL_aim 39 = .ok (.goto 8, 3) := by decide +kernel
theorem dL_aim_42 : decode cL_aim 42 = .ok (.iload 4, 2) := by decide +kernel
theorem dL_aim_44 : decode cL_aim 44 = .ok (.iload 5, 2) := by decide +kernel
theorem dL_aim_46 : decode cL_aim 46 = .ok (.iadd, 1) := by decide +kernel
theorem dL_aim_47 : decode cL_aim 47 = .ok (.istore 7, 2) := by decide +kernel
theorem dL_aim_49 : decode cL_aim 49 = .ok (.iconst 0, 1) := by decide +kernel
theorem dL_aim_50 : decode cL_aim 50 = .ok (.istore 8, 2) := by decide +kernel
theorem dL_aim_52 : decode cL_aim 52 = .ok (.iload 8, 2) := by decide +kernel
theorem dL_aim_54 : decode cL_aim 54 = .ok (.aload_n 0, 1) := by decide +kernel
theorem dL_aim_55 : decode cL_aim 55 = .ok (.iconst 2, 1) := by decide +kernel
theorem dL_aim_56 : decode cL_aim 56 = .ok (.iaload, 1) := by decide +kernel
theorem dL_aim_57 : decode cL_aim 57 = .ok (.if_icmp .ge 46, 3) := by decide +kernel
theorem dL_aim_60 : decode cL_aim 60 = .ok (.aload_n 2, 1) := by decide +kernel
theorem dL_aim_61 : decode cL_aim 61 = .ok (.iload 8, 2) := by decide +kernel
theorem dL_aim_63 : decode cL_aim 63 = .ok (.laload, 1) := by decide +kernel
theorem dL_aim_64 : decode cL_aim 64 = .ok (.invokestatic 15, 3) := by decide +kernel
theorem dL_aim_67 : decode cL_aim 67 = .ok (.iconst 2, 1) := by decide +kernel
theorem dL_aim_68 : decode cL_aim 68 = .ok (.if_icmp .ne 29, 3) := by decide +kernel
theorem dL_aim_71 : decode cL_aim 71 = .ok (.aload_n 2, 1) := by decide +kernel
theorem dL_aim_72 : decode cL_aim 72 = .ok (.iload 8, 2) := by decide +kernel
theorem dL_aim_74 : decode cL_aim 74 = .ok (.laload, 1) := by decide +kernel
theorem dL_aim_75 : decode cL_aim 75 = .ok (.invokestatic 21, 3) := by decide +kernel
theorem dL_aim_78 : decode cL_aim 78 = .ok (.iload_n 3, 1) := by decide +kernel
theorem dL_aim_79 : decode cL_aim 79 = .ok (.if_icmp .ne 18, 3) := by decide +kernel
theorem dL_aim_82 : decode cL_aim 82 = .ok (.aload_n 2, 1) := by decide +kernel
theorem dL_aim_83 : decode cL_aim 83 = .ok (.iload 8, 2) := by decide +kernel
theorem dL_aim_85 : decode cL_aim 85 = .ok (.laload, 1) := by decide +kernel
theorem dL_aim_86 : decode cL_aim 86 = .ok (.invokestatic 24, 3) := by decide +kernel
theorem dL_aim_89 : decode cL_aim 89 = .ok (.iload 7, 2) := by decide +kernel
theorem dL_aim_91 : decode cL_aim 91 = .ok (.if_icmp .ne 6, 3) := by decide +kernel
theorem dL_aim_94 : decode cL_aim 94 = .ok (.iload 7, 2) := by decide +kernel
theorem dL_aim_96 : decode cL_aim 96 = .ok (.ireturn, 1) := by decide +kernel
theorem dL_aim_97 : decode cL_aim 97 = .ok (.iinc 8 1, 3) := by decide +kernel
theorem dL_aim_100 : decode cL_aim 100 = .ok (.goto (-48), 3) := by decide +kernel
theorem dL_aim_103 : decode cL_aim 103 = .ok (.iinc 6 1, 3) := by decide +kernel
theorem dL_aim_106 : decode cL_aim 106 = .ok (.goto (-83), 3) := by decide +kernel
theorem dL_aim_109 : decode cL_aim 109 = .ok (.iinc 5 1, 3) := by decide +kernel
theorem dL_aim_112 : decode cL_aim 112 = .ok (.goto (-99), 3) := by decide +kernel
theorem dL_aim_115 : decode cL_aim 115 = .ok (.iconst 0, 1) := by decide +kernel
theorem dL_aim_116 : decode cL_aim 116 = .ok (.istore 5, 2) := by decide +kernel
theorem dL_aim_118 : decode cL_aim 118 = .ok (.iload 5, 2) := by decide +kernel
theorem dL_aim_120 : decode cL_aim 120 = .ok (.aload_n 0, 1) := by decide +kernel
theorem dL_aim_121 : decode cL_aim 121 = .ok (.iconst 2, 1) := by decide +kernel
theorem dL_aim_122 : decode cL_aim 122 = .ok (.iaload, 1) := by decide +kernel
theorem dL_aim_123 : decode cL_aim 123 = .ok (.if_icmp .ge 39, 3) := by decide +kernel
theorem dL_aim_126 : decode cL_aim 126 = .ok (.aload_n 2, 1) := by decide +kernel
theorem dL_aim_127 : decode cL_aim 127 = .ok (.iload 5, 2) := by decide +kernel
theorem dL_aim_129 : decode cL_aim 129 = .ok (.laload, 1) := by decide +kernel
theorem dL_aim_130 : decode cL_aim 130 = .ok (.invokestatic 15, 3) := by decide +kernel
theorem dL_aim_133 : decode cL_aim 133 = .ok (.iconst 1, 1) := by decide +kernel
theorem dL_aim_134 : decode cL_aim 134 = .ok (.if_icmp .ne 22, 3) := by decide +kernel
theorem dL_aim_137 : decode cL_aim 137 = .ok (.aload_n 2, 1) := by decide +kernel
theorem dL_aim_138 : decode cL_aim 138 = .ok (.iload 5, 2) := by decide +kernel
theorem dL_aim_140 : decode cL_aim 140 = .ok (.laload, 1) := by decide +kernel
theorem dL_aim_141 : decode cL_aim 141 = .ok (.invokestatic 21, 3) := by decide +kernel
theorem dL_aim_144 : decode cL_aim 144 = .ok (.iload_n 3, 1) := by decide +kernel
theorem dL_aim_145 : decode cL_aim 145 = .ok (.if_icmp .ne 11, 3) := by decide +kernel
theorem dL_aim_148 : decode cL_aim 148 = .ok (.aload_n 2, 1) := by decide +kernel
theorem dL_aim_149 : decode cL_aim 149 = .ok (.iload 5, 2) := by decide +kernel
theorem dL_aim_151 : decode cL_aim 151 = .ok (.laload, 1) := by decide +kernel
theorem dL_aim_152 : decode cL_aim 152 = .ok (.invokestatic 27, 3) := by decide +kernel
theorem dL_aim_155 : decode cL_aim 155 = .ok (.ireturn, 1) := by decide +kernel
theorem dL_aim_156 : decode cL_aim 156 = .ok (.iinc 5 1, 3) := by decide +kernel
theorem dL_aim_159 : decode cL_aim 159 = .ok (.goto (-41), 3) := by decide +kernel
theorem dL_aim_162 : decode cL_aim 162 = .ok (.bipush (-9), 2) := by decide +kernel
theorem dL_aim_164 : decode cL_aim 164 = .ok (.ireturn, 1) := by decide +kernel
set_option maxRecDepth 20000 in
theorem ggL_goes_L_aim : GoodIn wsL_goes wsL_aim := goodIn_r _ [5, 6, 7, 4, 8, 9, 10, 11, 12, 13, 14, 15, 16, 17, 18, 19, 20] (by decide +kernel) (by decide +kernel)
set_option maxRecDepth 20000 in
theorem gL_goes_L_aim : GoodIn wsL_goes (va_wsS RL 53 yL_aim wsL_aim) := goodIn_app (goodIn_of _ (by decide +kernel)) ggL_goes_L_aim
set_option maxRecDepth 20000 in
theorem ggL_goes_L_by : GoodIn wsL_goes wsL_by := goodIn_r _ [12, 13] (by decide +kernel) (by decide +kernel)
set_option maxRecDepth 20000 in
theorem gL_goes_L_by : GoodIn wsL_goes (va_wsS RL 21 yL_by wsL_by) := goodIn_app (goodIn_of _ (by decide +kernel)) ggL_goes_L_by
set_option maxRecDepth 20000 in
theorem ggL_goes_L_is : GoodIn wsL_goes wsL_is := goodIn_r _ [8, 9] (by decide +kernel) (by decide +kernel)
set_option maxRecDepth 20000 in
theorem gL_goes_L_is : GoodIn wsL_goes (va_wsS RL 15 yL_is wsL_is) := goodIn_app (goodIn_of _ (by decide +kernel)) ggL_goes_L_is
set_option maxRecDepth 20000 in
theorem ggL_goes_L_goal : GoodIn wsL_goes wsL_goal := goodIn_r _ [16, 17] (by decide +kernel) (by decide +kernel)
set_option maxRecDepth 20000 in
theorem gL_goes_L_goal : GoodIn wsL_goes (va_wsS RL 24 yL_goal wsL_goal) := goodIn_app (goodIn_of _ (by decide +kernel)) ggL_goes_L_goal
set_option maxRecDepth 20000 in
theorem ggL_goes_L_those : GoodIn wsL_goes wsL_those := goodIn_r _ [23, 6, 7, 4, 8, 9, 10, 11, 12, 13] (by decide +kernel) (by decide +kernel)
set_option maxRecDepth 20000 in
theorem gL_goes_L_those : GoodIn wsL_goes (va_wsS RL 38 yL_those wsL_those) := goodIn_app (goodIn_of _ (by decide +kernel)) ggL_goes_L_those
set_option maxRecDepth 20000 in
theorem ggL_goes_L_floor : GoodIn wsL_goes wsL_floor := goodIn_r _ [20, 17] (by decide +kernel) (by decide +kernel)
set_option maxRecDepth 20000 in
theorem gL_goes_L_floor : GoodIn wsL_goes (va_wsS RL 27 yL_floor wsL_floor) := goodIn_app (goodIn_of _ (by decide +kernel)) ggL_goes_L_floor
theorem dL_goes_0 : decode cL_goes 0 = .ok (.bipush 6, 2) := by decide +kernel
theorem dL_goes_2 : decode cL_goes 2 = .ok (.iload 4, 2) := by decide +kernel
theorem dL_goes_4 : decode cL_goes 4 = .ok (.imul, 1) := by decide +kernel
theorem dL_goes_5 : decode cL_goes 5 = .ok (.istore 5, 2) := by decide +kernel
theorem dL_goes_7 : decode cL_goes 7 = .ok (.iconst 0, 1) := by decide +kernel
theorem dL_goes_8 : decode cL_goes 8 = .ok (.istore 6, 2) := by decide +kernel
theorem dL_goes_10 : decode cL_goes 10 = .ok (.iconst 0, 1) := by decide +kernel
theorem dL_goes_11 : decode cL_goes 11 = .ok (.istore 7, 2) := by decide +kernel
theorem dL_goes_13 : decode cL_goes 13 = .ok (.aload_n 0, 1) := by decide +kernel
theorem dL_goes_14 : decode cL_goes 14 = .ok (.aload_n 1, 1) := by decide +kernel
theorem dL_goes_15 : decode cL_goes 15 = .ok (.aload_n 2, 1) := by decide +kernel
theorem dL_goes_16 : decode cL_goes 16 = .ok (.iload 4, 2) := by decide +kernel
theorem dL_goes_18 : decode cL_goes 18 = .ok (.invokestatic 53, 3) := by decide +kernel
theorem dL_goes_21 : decode cL_goes 21 = .ok (.istore 8, 2) := by decide +kernel
theorem dL_goes_23 : decode cL_goes 23 = .ok (.iconst 0, 1) := by decide +kernel
theorem dL_goes_24 : decode cL_goes 24 = .ok (.istore 9, 2) := by decide +kernel
theorem dL_goes_26 : decode cL_goes 26 = .ok (.iload 9, 2) := by decide +kernel
theorem dL_goes_28 : decode cL_goes 28 = .ok (.aload_n 0, 1) := by decide +kernel
theorem dL_goes_29 : decode cL_goes 29 = .ok (.iconst 2, 1) := by decide +kernel
theorem dL_goes_30 : decode cL_goes 30 = .ok (.iaload, 1) := by decide +kernel
theorem dL_goes_31 : decode cL_goes 31 = .ok (.if_icmp .ge 77, 3) := by decide +kernel
theorem dL_goes_34 : decode cL_goes 34 = .ok (.aload_n 2, 1) := by decide +kernel
theorem dL_goes_35 : decode cL_goes 35 = .ok (.iload 9, 2) := by decide +kernel
theorem dL_goes_37 : decode cL_goes 37 = .ok (.laload, 1) := by decide +kernel
theorem dL_goes_38 : decode cL_goes 38 = .ok (.invokestatic 21, 3) := by decide +kernel
theorem dL_goes_41 : decode cL_goes 41 = .ok (.iload 4, 2) := by decide +kernel
theorem dL_goes_43 : decode cL_goes 43 = .ok (.if_icmp .ne 59, 3) := by decide +kernel
theorem dL_goes_46 : decode cL_goes 46 = .ok (.aload_n 2, 1) := by decide +kernel
theorem dL_goes_47 : decode cL_goes 47 = .ok (.iload 9, 2) := by decide +kernel
theorem dL_goes_49 : decode cL_goes 49 = .ok (.laload, 1) := by decide +kernel
theorem dL_goes_50 : decode cL_goes 50 = .ok (.invokestatic 15, 3) := by decide +kernel
theorem dL_goes_53 : decode cL_goes 53 = .ok (.iconst 2, 1) := by decide +kernel
theorem dL_goes_54 : decode cL_goes 54 = .ok (.if_icmp .ne 48, 3) := by decide +kernel
theorem dL_goes_57 : decode cL_goes 57 = .ok (.aload_n 2, 1) := by decide +kernel
theorem dL_goes_58 : decode cL_goes 58 = .ok (.iload 9, 2) := by decide +kernel
theorem dL_goes_60 : decode cL_goes 60 = .ok (.laload, 1) := by decide +kernel
theorem dL_goes_61 : decode cL_goes 61 = .ok (.invokestatic 24, 3) := by decide +kernel
theorem dL_goes_64 : decode cL_goes 64 = .ok (.aload_n 1, 1) := by decide +kernel
theorem dL_goes_65 : decode cL_goes 65 = .ok (.iload 5, 2) := by decide +kernel
theorem dL_goes_67 : decode cL_goes 67 = .ok (.iconst 3, 1) := by decide +kernel
theorem dL_goes_68 : decode cL_goes 68 = .ok (.iadd, 1) := by decide +kernel
theorem dL_goes_69 : decode cL_goes 69 = .ok (.iaload, 1) := by decide +kernel
theorem dL_goes_70 : decode cL_goes 70 = .ok (.if_icmp .ne 32, 3) := by decide +kernel
theorem dL_goes_73 : decode cL_goes 73 = .ok (.aload_n 2, 1) := by decide +kernel
theorem dL_goes_74 : decode cL_goes 74 = .ok (.iload 9, 2) := by decide +kernel
theorem dL_goes_76 : decode cL_goes 76 = .ok (.dup2, 1) := by decide +kernel
theorem dL_goes_77 : decode cL_goes 77 = .ok (.laload, 1) := by decide +kernel
theorem dL_goes_78 : decode cL_goes 78 = .ok (.ldc2_w 49, 3) := by decide +kernel
theorem dL_goes_81 : decode cL_goes 81 = .ok (.ladd, 1) := by decide +kernel
theorem dL_goes_82 : decode cL_goes 82 = .ok (.lastore, 1) := by decide +kernel
theorem dL_goes_83 : decode cL_goes 83 = .ok (.aload_n 3, 1) := by decide +kernel
theorem dL_goes_84 : decode cL_goes 84 = .ok (.iload 9, 2) := by decide +kernel
theorem dL_goes_86 : decode cL_goes 86 = .ok (.dup2, 1) := by decide +kernel
theorem dL_goes_87 : decode cL_goes 87 = .ok (.laload, 1) := by decide +kernel
theorem dL_goes_88 : decode cL_goes 88 = .ok (.aload_n 0, 1) := by decide +kernel
theorem dL_goes_89 : decode cL_goes 89 = .ok (.iconst 0, 1) := by decide +kernel
theorem dL_goes_90 : decode cL_goes 90 = .ok (.iaload, 1) := by decide +kernel
theorem dL_goes_91 : decode cL_goes 91 = .ok (.i2l, 1) := by decide +kernel
theorem dL_goes_92 : decode cL_goes 92 = .ok (.lconst 1, 1) := by decide +kernel
theorem dL_goes_93 : decode cL_goes 93 = .ok (.ladd, 1) := by decide +kernel
theorem dL_goes_94 : decode cL_goes 94 = .ok (.bipush 20, 2) := by decide +kernel
theorem dL_goes_96 : decode cL_goes 96 = .ok (.lshl, 1) := by decide +kernel
theorem dL_goes_97 : decode cL_goes 97 = .ok (.ladd, 1) := by decide +kernel
theorem dL_goes_98 : decode cL_goes 98 = .ok (.lastore, 1) := by decide +kernel
theorem dL_goes_99 : decode cL_goes 99 = .ok (.iinc 6 1, 3) := by decide +kernel
theorem dL_goes_102 : decode cL_goes 102 = .ok (.iinc 9 1, 3) := by decide +kernel
theorem dL_goes_105 : decode cL_goes 105 = .ok (.goto (-79), 3) := by decide +kernel
theorem dL_goes_108 : decode cL_goes 108 = .ok (.aload_n 1, 1) := by decide +kernel
theorem dL_goes_109 : decode cL_goes 109 = .ok (.iload 5, 2) := by decide +kernel
theorem dL_goes_111 : decode cL_goes 111 = .ok (.iconst 2, 1) := by decide +kernel
theorem dL_goes_112 : decode cL_goes 112 = .ok (.iadd, 1) := by decide +kernel
theorem dL_goes_113 : decode cL_goes 113 = .ok (.iaload, 1) := by decide +kernel
theorem dL_goes_114 : decode cL_goes 114 = .ok (.aload_n 0, 1) := by decide +kernel
theorem dL_goes_115 : decode cL_goes 115 = .ok (.aload_n 2, 1) := by decide +kernel
theorem dL_goes_116 : decode cL_goes 116 = .ok (.iload 4, 2) := by decide +kernel
theorem dL_goes_118 : decode cL_goes 118 = .ok (.iconst 2, 1) := by decide +kernel
theorem dL_goes_119 : decode cL_goes 119 = .ok (.invokestatic 38, 3) := by decide +kernel
theorem dL_goes_122 : decode cL_goes 122 = .ok (.isub, 1) := by decide +kernel
theorem dL_goes_123 : decode cL_goes 123 = .ok (.istore 9, 2) := by decide +kernel
theorem dL_goes_125 : decode cL_goes 125 = .ok (.iconst 0, 1) := by decide +kernel
theorem dL_goes_126 : decode cL_goes 126 = .ok (.istore 10, 2) := by decide +kernel
theorem dL_goes_128 : decode cL_goes 128 = .ok (.iload 10, 2) := by decide +kernel
theorem dL_goes_130 : decode cL_goes 130 = .ok (.aload_n 0, 1) := by decide +kernel
theorem dL_goes_131 : decode cL_goes 131 = .ok (.iconst 2, 1) := by decide +kernel
theorem dL_goes_132 : decode cL_goes 132 = .ok (.iaload, 1) := by decide +kernel
theorem dL_goes_133 : decode cL_goes 133 = .ok (.if_icmp .ge 78, 3) := by decide +kernel
theorem dL_goes_136 : decode cL_goes 136 = .ok (.aload_n 2, 1) := by decide +kernel
theorem dL_goes_137 : decode cL_goes 137 = .ok (.iload 10, 2) := by decide +kernel
theorem dL_goes_139 : decode cL_goes 139 = .ok (.laload, 1) := by decide +kernel
theorem dL_goes_140 : decode cL_goes 140 = .ok (.invokestatic 21, 3) := by decide +kernel
theorem dL_goes_143 : decode cL_goes 143 = .ok (.iload 4, 2) := by decide +kernel
theorem dL_goes_145 : decode cL_goes 145 = .ok (.if_icmp .ne 60, 3) := by decide +kernel
theorem dL_goes_148 : decode cL_goes 148 = .ok (.aload_n 2, 1) := by decide +kernel
theorem dL_goes_149 : decode cL_goes 149 = .ok (.iload 10, 2) := by decide +kernel
theorem dL_goes_151 : decode cL_goes 151 = .ok (.laload, 1) := by decide +kernel
theorem dL_goes_152 : decode cL_goes 152 = .ok (.invokestatic 15, 3) := by decide +kernel
theorem dL_goes_155 : decode cL_goes 155 = .ok (.iconst 1, 1) := by decide +kernel
theorem dL_goes_156 : decode cL_goes 156 = .ok (.if_icmp .ne 49, 3) := by decide +kernel
theorem dL_goes_159 : decode cL_goes 159 = .ok (.aload_n 2, 1) := by decide +kernel
theorem dL_goes_160 : decode cL_goes 160 = .ok (.iload 10, 2) := by decide +kernel
theorem dL_goes_162 : decode cL_goes 162 = .ok (.laload, 1) := by decide +kernel
theorem dL_goes_163 : decode cL_goes 163 = .ok (.invokestatic 27, 3) := by decide +kernel
theorem dL_goes_166 : decode cL_goes 166 = .ok (.aload_n 1, 1) := by decide +kernel
theorem dL_goes_167 : decode cL_goes 167 = .ok (.iload 5, 2) := by decide +kernel
theorem dL_goes_169 : decode cL_goes 169 = .ok (.iconst 3, 1) := by decide +kernel
theorem dL_goes_170 : decode cL_goes 170 = .ok (.iadd, 1) := by decide +kernel
theorem dL_goes_171 : decode cL_goes 171 = .ok (.iaload, 1) := by decide +kernel
theorem dL_goes_172 : decode cL_goes 172 = .ok (.if_icmp .ne 33, 3) := by decide +kernel
theorem dL_goes_175 : decode cL_goes 175 = .ok (.iload 7, 2) := by decide +kernel
theorem dL_goes_177 : decode cL_goes 177 = .ok (.iload 9, 2) := by decide +kernel
theorem dL_goes_179 : decode cL_goes 179 = .ok (.if_icmp .ge 26, 3) := by decide +kernel
theorem dL_goes_182 : decode cL_goes 182 = .ok (.aload_n 2, 1) := by decide +kernel
theorem dL_goes_183 : decode cL_goes 183 = .ok (.iload 10, 2) := by decide +kernel
theorem dL_goes_185 : decode cL_goes 185 = .ok (.dup2, 1) := by decide +kernel
theorem dL_goes_186 : decode cL_goes 186 = .ok (.laload, 1) := by decide +kernel
theorem dL_goes_187 : decode cL_goes 187 = .ok (.ldc2_w 49, 3) := by decide +kernel
theorem dL_goes_190 : decode cL_goes 190 = .ok (.ladd, 1) := by decide +kernel
theorem dL_goes_191 : decode cL_goes 191 = .ok (.lastore, 1) := by decide +kernel
theorem dL_goes_192 : decode cL_goes 192 = .ok (.aload_n 3, 1) := by decide +kernel
theorem dL_goes_193 : decode cL_goes 193 = .ok (.iload 10, 2) := by decide +kernel
theorem dL_goes_195 : decode cL_goes 195 = .ok (.aload_n 0, 1) := by decide +kernel
theorem dL_goes_196 : decode cL_goes 196 = .ok (.iconst 0, 1) := by decide +kernel
theorem dL_goes_197 : decode cL_goes 197 = .ok (.iaload, 1) := by decide +kernel
theorem dL_goes_198 : decode cL_goes 198 = .ok (.i2l, 1) := by decide +kernel
theorem dL_goes_199 : decode cL_goes 199 = .ok (.lconst 1, 1) := by decide +kernel
theorem dL_goes_200 : decode cL_goes 200 = .ok (.ladd, 1) := by decide +kernel
theorem dL_goes_201 : decode cL_goes 201 = .ok (.lastore, 1) := by decide +kernel
theorem dL_goes_202 : decode cL_goes 202 = .ok (.iinc 7 1, 3) := by decide +kernel
theorem dL_goes_205 : decode cL_goes 205 = .ok (.iinc 10 1, 3) := by decide +kernel
theorem dL_goes_208 : decode cL_goes 208 = .ok (.goto (-80), 3) := by decide +kernel
theorem dL_goes_211 : decode cL_goes 211 = .ok (.iload 7, 2) := by decide +kernel
theorem dL_goes_213 : decode cL_goes 213 = .ok (.iload 6, 2) := by decide +kernel
theorem dL_goes_215 : decode cL_goes 215 = .ok (.iadd, 1) := by decide +kernel
theorem dL_goes_216 : decode cL_goes 216 = .ok (.ifCond .le 13, 3) := by decide +kernel
theorem dL_goes_219 : decode cL_goes 219 = .ok (.aload_n 0, 1) := by decide +kernel
theorem dL_goes_220 : decode cL_goes 220 = .ok (.iconst 3, 1) := by decide +kernel
theorem dL_goes_221 : decode cL_goes 221 = .ok (.dup2, 1) := by decide +kernel
theorem dL_goes_222 : decode cL_goes 222 = .ok (.iaload, 1) := by decide +kernel
theorem dL_goes_223 : decode cL_goes 223 = .ok (.iconst 1, 1) := by decide +kernel
theorem dL_goes_224 : decode cL_goes 224 = .ok (.iadd, 1) := by decide +kernel
theorem dL_goes_225 : decode cL_goes 225 = .ok (.iastore, 1) := by decide +kernel
theorem dL_goes_226 : decode cL_goes 226 = .ok (.goto 43, 3) := by decide +kernel
theorem dL_goes_229 : decode cL_goes 229 = .ok (.iload 8, 2) := by decide +kernel
theorem dL_goes_231 : decode cL_goes 231 = .ok (.ifCond .lt 38, 3) := by decide +kernel
theorem dL_goes_234 : decode cL_goes 234 = .ok (.aload_n 1, 1) := by decide +kernel
theorem dL_goes_235 : decode cL_goes 235 = .ok (.iload 5, 2) := by decide +kernel
theorem dL_goes_237 : decode cL_goes 237 = .ok (.iconst 3, 1) := by decide +kernel
theorem dL_goes_238 : decode cL_goes 238 = .ok (.iadd, 1) := by decide +kernel
theorem dL_goes_239 : decode cL_goes 239 = .ok (.dup2, 1) := by decide +kernel
theorem dL_goes_240 : decode cL_goes 240 = .ok (.iaload, 1) := by decide +kernel
theorem dL_goes_241 : decode cL_goes 241 = .ok (.iload 8, 2) := by decide +kernel
theorem dL_goes_243 : decode cL_goes 243 = .ok (.aload_n 1, 1) := by decide +kernel
theorem dL_goes_244 : decode cL_goes 244 = .ok (.iload 5, 2) := by decide +kernel
theorem dL_goes_246 : decode cL_goes 246 = .ok (.iconst 3, 1) := by decide +kernel
theorem dL_goes_247 : decode cL_goes 247 = .ok (.iadd, 1) := by decide +kernel
theorem dL_goes_248 : decode cL_goes 248 = .ok (.iaload, 1) := by decide +kernel
theorem dL_goes_249 : decode cL_goes 249 = .ok (.if_icmp .le 7, 3) := by decide +kernel
theorem dL_goes_252 : decode cL_goes 252 = .ok (.iconst 1, 1) := by decide +kernel
theorem dL_goes_253 : decode cL_goes 253 = .ok (.goto 4, 3) := by decide +kernel
theorem dL_goes_256 : decode cL_goes 256 = .ok (.iconst (-1), 1) := by decide +kernel
theorem dL_goes_257 : decode cL_goes 257 = .ok (.iadd, 1) := by decide +kernel
theorem dL_goes_258 : decode cL_goes 258 = .ok (.iastore, 1) := by decide +kernel
theorem dL_goes_259 : decode cL_goes 259 = .ok (.aload_n 1, 1) := by decide +kernel
theorem dL_goes_260 : decode cL_goes 260 = .ok (.iload 5, 2) := by decide +kernel
theorem dL_goes_262 : decode cL_goes 262 = .ok (.iconst 5, 1) := by decide +kernel
theorem dL_goes_263 : decode cL_goes 263 = .ok (.iadd, 1) := by decide +kernel
theorem dL_goes_264 : decode cL_goes 264 = .ok (.dup2, 1) := by decide +kernel
theorem dL_goes_265 : decode cL_goes 265 = .ok (.iaload, 1) := by decide +kernel
theorem dL_goes_266 : decode cL_goes 266 = .ok (.iconst 1, 1) := by decide +kernel
theorem dL_goes_267 : decode cL_goes 267 = .ok (.iadd, 1) := by decide +kernel
theorem dL_goes_268 : decode cL_goes 268 = .ok (.iastore, 1) := by decide +kernel
theorem dL_goes_269 : decode cL_goes 269 = .ok (.return_, 1) := by decide +kernel
set_option maxRecDepth 20000 in
theorem ggL_tick_L_is : GoodIn wsL_tick wsL_is := goodIn_r _ [4, 5] (by decide +kernel) (by decide +kernel)
set_option maxRecDepth 20000 in
theorem gL_tick_L_is : GoodIn wsL_tick (va_wsS RL 15 yL_is wsL_is) := goodIn_app (goodIn_of _ (by decide +kernel)) ggL_tick_L_is
set_option maxRecDepth 20000 in
theorem ggL_tick_L_gives : GoodIn wsL_tick wsL_gives := goodIn_r _ [8, 9, 10, 11, 12, 3, 13, 14, 15, 16, 17, 18, 19, 20, 21, 22, 23, 24, 25, 26, 27, 28, 29, 30, 31, 32, 33, 1, 2, 4, 5, 34, 35, 36] (by decide +kernel) (by decide +kernel)
set_option maxRecDepth 20000 in
theorem gL_tick_L_gives : GoodIn wsL_tick (va_wsS RL 57 yL_gives wsL_gives) := goodIn_app (goodIn_of _ (by decide +kernel)) ggL_tick_L_gives
set_option maxRecDepth 20000 in
theorem ggL_tick_L_goes : GoodIn wsL_tick wsL_goes := goodIn_r _ [39, 9, 40, 41, 3, 42, 1, 2, 4, 5, 30, 31, 32, 33, 15, 16, 17, 14, 11, 12, 13, 34, 35, 36] (by decide +kernel) (by decide +kernel)
set_option maxRecDepth 20000 in
theorem gL_tick_L_goes : GoodIn wsL_tick (va_wsS RL 61 yL_goes wsL_goes) := goodIn_app (goodIn_of _ (by decide +kernel)) ggL_tick_L_goes
theorem dL_tick_0 : decode cL_tick 0 = .ok (.iconst 0, 1) := by decide +kernel
theorem dL_tick_1 : decode cL_tick 1 = .ok (.istore 5, 2) := by decide +kernel
theorem dL_tick_3 : decode cL_tick 3 = .ok (.iload 5, 2) := by decide +kernel
theorem dL_tick_5 : decode cL_tick 5 = .ok (.aload_n 0, 1) := by decide +kernel
theorem dL_tick_6 : decode cL_tick 6 = .ok (.iconst 2, 1) := by decide +kernel
theorem dL_tick_7 : decode cL_tick 7 = .ok (.iaload, 1) := by decide +kernel
theorem dL_tick_8 : decode cL_tick 8 = .ok (.if_icmp .ge 28, 3) := by decide +kernel
theorem dL_tick_11 : decode cL_tick 11 = .ok (.aload_n 3, 1) := by decide +kernel
theorem dL_tick_12 : decode cL_tick 12 = .ok (.iload 5, 2) := by decide +kernel
theorem dL_tick_14 : decode cL_tick 14 = .ok (.laload, 1) := by decide +kernel
theorem dL_tick_15 : decode cL_tick 15 = .ok (.invokestatic 15, 3) := by decide +kernel
theorem dL_tick_18 : decode cL_tick 18 = .ok (.ifCond .ne 12, 3) := by decide +kernel
theorem dL_tick_21 : decode cL_tick 21 = .ok (.aload_n 0, 1) := by decide +kernel
theorem dL_tick_22 : decode cL_tick 22 = .ok (.aload_n 1, 1) := by decide +kernel
theorem dL_tick_23 : decode cL_tick 23 = .ok (.aload_n 2, 1) := by decide +kernel
theorem dL_tick_24 : decode cL_tick 24 = .ok (.aload_n 3, 1) := by decide +kernel
theorem dL_tick_25 : decode cL_tick 25 = .ok (.iload 5, 2) := by decide +kernel
theorem dL_tick_27 : decode cL_tick 27 = .ok (.invokestatic 57, 3) := by decide +kernel
theorem dL_tick_30 : decode cL_tick 30 = .ok (.iinc 5 1, 3) := by decide +kernel
theorem dL_tick_33 : decode cL_tick 33 = .ok (.goto (-30), 3) := by decide +kernel
theorem dL_tick_36 : decode cL_tick 36 = .ok (.iconst 0, 1) := by decide +kernel
theorem dL_tick_37 : decode cL_tick 37 = .ok (.istore 5, 2) := by decide +kernel
theorem dL_tick_39 : decode cL_tick 39 = .ok (.iload 5, 2) := by decide +kernel
theorem dL_tick_41 : decode cL_tick 41 = .ok (.aload_n 0, 1) := by decide +kernel
theorem dL_tick_42 : decode cL_tick 42 = .ok (.iconst 1, 1) := by decide +kernel
theorem dL_tick_43 : decode cL_tick 43 = .ok (.iaload, 1) := by decide +kernel
theorem dL_tick_44 : decode cL_tick 44 = .ok (.if_icmp .ge 31, 3) := by decide +kernel
theorem dL_tick_47 : decode cL_tick 47 = .ok (.aload_n 2, 1) := by decide +kernel
theorem dL_tick_48 : decode cL_tick 48 = .ok (.bipush 6, 2) := by decide +kernel
