theorem dL_tick_50 : decode cL_tick 50 = .ok (.iload 5, 2) := by decide +kernel
theorem dL_tick_52 : decode cL_tick 52 = .ok (.imul, 1) := by decide +kernel
theorem dL_tick_53 : decode cL_tick 53 = .ok (.iconst 4, 1) := by decide +kernel
theorem dL_tick_54 : decode cL_tick 54 = .ok (.iadd, 1) := by decide +kernel
theorem dL_tick_55 : decode cL_tick 55 = .ok (.iaload, 1) := by decide +kernel
theorem dL_tick_56 : decode cL_tick 56 = .ok (.ifCond .ne 13, 3) := by decide +kernel
theorem dL_tick_59 : decode cL_tick 59 = .ok (.aload_n 0, 1) := by decide +kernel
theorem dL_tick_60 : decode cL_tick 60 = .ok (.aload_n 2, 1) := by decide +kernel
theorem dL_tick_61 : decode cL_tick 61 = .ok (.aload_n 3, 1) := by decide +kernel
theorem dL_tick_62 : decode cL_tick 62 = .ok (.aload 4, 2) := by decide +kernel
theorem dL_tick_64 : decode cL_tick 64 = .ok (.iload 5, 2) := by decide +kernel
theorem dL_tick_66 : decode cL_tick 66 = .ok (.invokestatic 61, 3) := by decide +kernel
theorem dL_tick_69 : decode cL_tick 69 = .ok (.iinc 5 1, 3) := by decide +kernel
theorem dL_tick_72 : decode cL_tick 72 = .ok (.goto (-33), 3) := by decide +kernel
theorem dL_tick_75 : decode cL_tick 75 = .ok (.aload_n 0, 1) := by decide +kernel
theorem dL_tick_76 : decode cL_tick 76 = .ok (.iconst 0, 1) := by decide +kernel
theorem dL_tick_77 : decode cL_tick 77 = .ok (.dup2, 1) := by decide +kernel
theorem dL_tick_78 : decode cL_tick 78 = .ok (.iaload, 1) := by decide +kernel
theorem dL_tick_79 : decode cL_tick 79 = .ok (.iconst 1, 1) := by decide +kernel
theorem dL_tick_80 : decode cL_tick 80 = .ok (.iadd, 1) := by decide +kernel
theorem dL_tick_81 : decode cL_tick 81 = .ok (.iastore, 1) := by decide +kernel
theorem dL_tick_82 : decode cL_tick 82 = .ok (.return_, 1) := by decide +kernel
set_option maxRecDepth 20000 in
theorem ggL_fails_L_by : GoodIn wsL_fails wsL_by := goodIn_r _ [7, 8] (by decide +kernel) (by decide +kernel)
set_option maxRecDepth 20000 in
theorem gL_fails_L_by : GoodIn wsL_fails (va_wsS RL 21 yL_by wsL_by) := goodIn_app (goodIn_of _ (by decide +kernel)) ggL_fails_L_by
set_option maxRecDepth 20000 in
theorem ggL_fails_L_is : GoodIn wsL_fails wsL_is := goodIn_r _ [11, 12] (by decide +kernel) (by decide +kernel)
set_option maxRecDepth 20000 in
theorem gL_fails_L_is : GoodIn wsL_fails (va_wsS RL 15 yL_is wsL_is) := goodIn_app (goodIn_of _ (by decide +kernel)) ggL_fails_L_is
set_option maxRecDepth 20000 in
theorem ggL_fails_L_goal : GoodIn wsL_fails wsL_goal := goodIn_r _ [15, 16] (by decide +kernel) (by decide +kernel)
set_option maxRecDepth 20000 in
theorem gL_fails_L_goal : GoodIn wsL_fails (va_wsS RL 24 yL_goal wsL_goal) := goodIn_app (goodIn_of _ (by decide +kernel)) ggL_fails_L_goal
theorem dL_fails_0 : decode cL_fails 0 = .ok (.aload_n 1, 1) := by decide +kernel
theorem dL_fails_1 : decode cL_fails 1 = .ok (.bipush 6, 2) := by decide +kernel
theorem dL_fails_3 : decode cL_fails 3 = .ok (.iload 4, 2) := by decide +kernel
theorem dL_fails_5 : decode cL_fails 5 = .ok (.imul, 1) := by decide +kernel
theorem dL_fails_6 : decode cL_fails 6 = .ok (.iconst 3, 1) := by decide +kernel
theorem dL_fails_7 : decode cL_fails 7 = .ok (.iadd, 1) := by decide +kernel
theorem dL_fails_8 : decode cL_fails 8 = .ok (.iaload, 1) := by decide +kernel
theorem dL_fails_9 : decode cL_fails 9 = .ok (.istore 5, 2) := by decide +kernel
theorem dL_fails_11 : decode cL_fails 11 = .ok (.iconst 0, 1) := by decide +kernel
theorem dL_fails_12 : decode cL_fails 12 = .ok (.istore 6, 2) := by decide +kernel
theorem dL_fails_14 : decode cL_fails 14 = .ok (.iload 6, 2) := by decide +kernel
theorem dL_fails_16 : decode cL_fails 16 = .ok (.aload_n 0, 1) := by decide +kernel
theorem dL_fails_17 : decode cL_fails 17 = .ok (.iconst 2, 1) := by decide +kernel
theorem dL_fails_18 : decode cL_fails 18 = .ok (.iaload, 1) := by decide +kernel
theorem dL_fails_19 : decode cL_fails 19 = .ok (.if_icmp .ge 155, 3) := by decide +kernel
theorem dL_fails_22 : decode cL_fails 22 = .ok (.aload_n 2, 1) := by decide +kernel
theorem dL_fails_23 : decode cL_fails 23 = .ok (.iload 6, 2) := by decide +kernel
theorem dL_fails_25 : decode cL_fails 25 = .ok (.laload, 1) := by decide +kernel
theorem dL_fails_26 : decode cL_fails 26 = .ok (.lstore 7, 2) := by decide +kernel
theorem dL_fails_28 : decode cL_fails 28 = .ok (.lload 7, 2) := by decide +kernel
theorem dL_fails_30 : decode cL_fails 30 = .ok (.invokestatic 21, 3) := by decide +kernel
theorem dL_fails_33 : decode cL_fails 33 = .ok (.iload 4, 2) := by decide +kernel
theorem dL_fails_35 : decode cL_fails 35 = .ok (.if_icmp .ne 34, 3) := by decide +kernel
theorem dL_fails_38 : decode cL_fails 38 = .ok (.lload 7, 2) := by decide +kernel
theorem dL_fails_40 : decode cL_fails 40 = .ok (.invokestatic 15, 3) := by decide +kernel
theorem dL_fails_43 : decode cL_fails 43 = .ok (.iconst 1, 1) := by decide +kernel
theorem dL_fails_44 : decode cL_fails 44 = .ok (.if_icmp .ne 25, 3) := by decide +kernel
theorem dL_fails_47 : decode cL_fails 47 = .ok (.aload_n 2, 1) := by decide +kernel
theorem dL_fails_48 : decode cL_fails 48 = .ok (.iload 6, 2) := by decide +kernel
theorem dL_fails_50 : decode cL_fails 50 = .ok (.lload 7, 2) := by decide +kernel
theorem dL_fails_52 : decode cL_fails 52 = .ok (.ldc2_w 49, 3) := by decide +kernel
theorem dL_fails_55 : decode cL_fails 55 = .ok (.lsub, 1) := by decide +kernel
theorem dL_fails_56 : decode cL_fails 56 = .ok (.iload 4, 2) := by decide +kernel
theorem dL_fails_58 : decode cL_fails 58 = .ok (.i2l, 1) := by decide +kernel
theorem dL_fails_59 : decode cL_fails 59 = .ok (.lconst 1, 1) := by decide +kernel
theorem dL_fails_60 : decode cL_fails 60 = .ok (.ladd, 1) := by decide +kernel
theorem dL_fails_61 : decode cL_fails 61 = .ok (.bipush 10, 2) := by decide +kernel
theorem dL_fails_63 : decode cL_fails 63 = .ok (.lshl, 1) := by decide +kernel
theorem dL_fails_64 : decode cL_fails 64 = .ok (.lsub, 1) := by decide +kernel
theorem dL_fails_65 : decode cL_fails 65 = .ok (.lastore, 1) := by decide +kernel
theorem dL_fails_66 : decode cL_fails 66 = .ok (.goto 102, 3) := by decide +kernel
theorem dL_fails_69 : decode cL_fails 69 = .ok (.lload 7, 2) := by decide +kernel
theorem dL_fails_71 : decode cL_fails 71 = .ok (.invokestatic 21, 3) := by decide +kernel
theorem dL_fails_74 : decode cL_fails 74 = .ok (.iload 4, 2) := by decide +kernel
theorem dL_fails_76 : decode cL_fails 76 = .ok (.if_icmp .ne 92, 3) := by decide +kernel
theorem dL_fails_79 : decode cL_fails 79 = .ok (.lload 7, 2) := by decide +kernel
theorem dL_fails_81 : decode cL_fails 81 = .ok (.invokestatic 15, 3) := by decide +kernel
theorem dL_fails_84 : decode cL_fails 84 = .ok (.iconst 2, 1) := by decide +kernel
theorem dL_fails_85 : decode cL_fails 85 = .ok (.if_icmp .ne 83, 3) := by decide +kernel
theorem dL_fails_88 : decode cL_fails 88 = .ok (.lload 7, 2) := by decide +kernel
theorem dL_fails_90 : decode cL_fails 90 = .ok (.invokestatic 24, 3) := by decide +kernel
theorem dL_fails_93 : decode cL_fails 93 = .ok (.iload 5, 2) := by decide +kernel
theorem dL_fails_95 : decode cL_fails 95 = .ok (.if_icmp .ne 7, 3) := by decide +kernel
theorem dL_fails_98 : decode cL_fails 98 = .ok (.iconst 1, 1) := by decide +kernel
theorem dL_fails_99 : decode cL_fails 99 = .ok (.goto 4, 3) := by decide +kernel
theorem dL_fails_102 : decode cL_fails 102 = .ok (.iconst 0, 1) := by decide +kernel
theorem dL_fails_103 : decode cL_fails 103 = .ok (.istore 9, 2) := by decide +kernel
theorem dL_fails_105 : decode cL_fails 105 = .ok (.aload_n 2, 1) := by decide +kernel
theorem dL_fails_106 : decode cL_fails 106 = .ok (.iload 6, 2) := by decide +kernel
theorem dL_fails_108 : decode cL_fails 108 = .ok (.lload 7, 2) := by decide +kernel
theorem dL_fails_110 : decode cL_fails 110 = .ok (.ldc2_w 65, 3) := by decide +kernel
theorem dL_fails_113 : decode cL_fails 113 = .ok (.land, 1) := by decide +kernel
theorem dL_fails_114 : decode cL_fails 114 = .ok (.iload 5, 2) := by decide +kernel
theorem dL_fails_116 : decode cL_fails 116 = .ok (.i2l, 1) := by decide +kernel
theorem dL_fails_117 : decode cL_fails 117 = .ok (.lor, 1) := by decide +kernel
theorem dL_fails_118 : decode cL_fails 118 = .ok (.iload 9, 2) := by decide +kernel
theorem dL_fails_120 : decode cL_fails 120 = .ok (.ifCond .eq 9, 3) := by decide +kernel
theorem dL_fails_123 : decode cL_fails 123 = .ok (.ldc2_w 49, 3) := by decide +kernel
theorem dL_fails_126 : decode cL_fails 126 = .ok (.goto 15, 3) := by decide +kernel
theorem dL_fails_129 : decode cL_fails 129 = .ok (.ldc2_w 67, 3) := by decide +kernel
theorem dL_fails_132 : decode cL_fails 132 = .ok (.iload 4, 2) := by decide +kernel
theorem dL_fails_134 : decode cL_fails 134 = .ok (.i2l, 1) := by decide +kernel
theorem dL_fails_135 : decode cL_fails 135 = .ok (.lconst 1, 1) := by decide +kernel
theorem dL_fails_136 : decode cL_fails 136 = .ok (.ladd, 1) := by decide +kernel
theorem dL_fails_137 : decode cL_fails 137 = .ok (.bipush 10, 2) := by decide +kernel
theorem dL_fails_139 : decode cL_fails 139 = .ok (.lshl, 1) := by decide +kernel
theorem dL_fails_140 : decode cL_fails 140 = .ok (.lsub, 1) := by decide +kernel
theorem dL_fails_141 : decode cL_fails 141 = .ok (.ladd, 1) := by decide +kernel
theorem dL_fails_142 : decode cL_fails 142 = .ok (.lastore, 1) := by decide +kernel
theorem dL_fails_143 : decode cL_fails 143 = .ok (.aload_n 3, 1) := by decide +kernel
theorem dL_fails_144 : decode cL_fails 144 = .ok (.iload 6, 2) := by decide +kernel
theorem dL_fails_146 : decode cL_fails 146 = .ok (.dup2, 1) := by decide +kernel
theorem dL_fails_147 : decode cL_fails 147 = .ok (.laload, 1) := by decide +kernel
theorem dL_fails_148 : decode cL_fails 148 = .ok (.iload 9, 2) := by decide +kernel
theorem dL_fails_150 : decode cL_fails 150 = .ok (.ifCond .eq 15, 3) := by decide +kernel
theorem dL_fails_153 : decode cL_fails 153 = .ok (.aload_n 0, 1) := by decide +kernel
theorem dL_fails_154 : decode cL_fails 154 = .ok (.iconst 0, 1) := by decide +kernel
theorem dL_fails_155 : decode cL_fails 155 = .ok (.iaload, 1) := by decide +kernel
theorem dL_fails_156 : decode cL_fails 156 = .ok (.i2l, 1) := by decide +kernel
theorem dL_fails_157 : decode cL_fails 157 = .ok (.lconst 1, 1) := by decide +kernel
theorem dL_fails_158 : decode cL_fails 158 = .ok (.ladd, 1) := by decide +kernel
theorem dL_fails_159 : decode cL_fails 159 = .ok (.bipush 20, 2) := by decide +kernel
theorem dL_fails_161 : decode cL_fails 161 = .ok (.lshl, 1) := by decide +kernel
theorem dL_fails_162 : decode cL_fails 162 = .ok (.goto 4, 3) := by decide +kernel
theorem dL_fails_165 : decode cL_fails 165 = .ok (.lconst 0, 1) := by decide +kernel
theorem dL_fails_166 : decode cL_fails 166 = .ok (.ladd, 1) := by decide +kernel
theorem dL_fails_167 : decode cL_fails 167 = .ok (.lastore, 1) := by decide +kernel
theorem dL_fails_168 : decode cL_fails 168 = .ok (.iinc 6 1, 3) := by decide +kernel
theorem dL_fails_171 : decode cL_fails 171 = .ok (.goto (-157), 3) := by decide +kernel
theorem dL_fails_174 : decode cL_fails 174 = .ok (.aload_n 1, 1) := by decide +kernel
theorem dL_fails_175 : decode cL_fails 175 = .ok (.bipush 6, 2) := by decide +kernel
theorem dL_fails_177 : decode cL_fails 177 = .ok (.iload 4, 2) := by decide +kernel
theorem dL_fails_179 : decode cL_fails 179 = .ok (.imul, 1) := by decide +kernel
theorem dL_fails_180 : decode cL_fails 180 = .ok (.iconst 4, 1) := by decide +kernel
theorem dL_fails_181 : decode cL_fails 181 = .ok (.iadd, 1) := by decide +kernel
theorem dL_fails_182 : decode cL_fails 182 = .ok (.iconst 2, 1) := by decide +kernel
theorem dL_fails_183 : decode cL_fails 183 = .ok (.iastore, 1) := by decide +kernel
theorem dL_fails_184 : decode cL_fails 184 = .ok (.return_, 1) := by decide +kernel
set_option maxRecDepth 100000 in
theorem ggL_cars_X4_addCar : GoodIn wsL_cars wsX4_addCar := goodIn_app (a := [.code yX4_addCar cX4_addCar 4 (some .int)]) (goodIn_r [.code yX4_addCar cX4_addCar 4 (some .int)] [5] rfl (by decide +kernel)) (goodIn_app (goodIn_app (goodIn_app (goodIn_app (goodIn_app (goodIn_app (goodIn_r wsX4_addCar_r1 [6, 7, 8, 9, 10, 11, 4, 12, 13, 14, 15, 16, 17, 18, 19, 20, 21, 22, 23, 24, 25, 26, 27, 28] rfl (by decide +kernel)) (goodIn_app (goodIn_r wsX4_addCar_r2 [29, 30, 31, 32, 33, 34, 35, 36, 37, 38, 39, 40, 41, 42, 43, 44, 45, 46, 47, 48, 49, 50, 51, 52] rfl (by decide +kernel)) (goodIn_r wsX4_addCar_r3 [53, 54, 55, 56, 57, 58, 59, 60, 61, 62, 63, 64, 65, 66, 67, 68, 69, 70, 71, 72, 73, 74] rfl (by decide +kernel)))) (goodIn_r wsX40 [151, 152, 153] rfl (by decide +kernel))) (goodIn_r wsX30 [154, 155, 156, 157] rfl (by decide +kernel))) (goodIn_r wsX10 [158, 159, 160, 161, 162, 163, 164, 165] rfl (by decide +kernel))) (goodIn_r wsX20 [166, 167, 168] rfl (by decide +kernel))) (goodIn_r wsX00 [169, 170, 171, 172, 173, 174, 175, 176, 177] rfl (by decide +kernel)))
set_option maxRecDepth 20000 in
theorem gL_cars_X4_addCar : GoodIn wsL_cars (wsV RL 69 RX4 yX4_addCar wsX4_addCar) := goodIn_app (goodIn_of _ (by decide +kernel)) ggL_cars_X4_addCar
set_option maxRecDepth 100000 in
theorem ggL_cars_X4_setAwake : GoodIn wsL_cars wsX4_setAwake := goodIn_app (a := [.code yX4_setAwake cX4_setAwake 4 (some .int)]) (goodIn_r [.code yX4_setAwake cX4_setAwake 4 (some .int)] [78] rfl (by decide +kernel)) (goodIn_app (goodIn_app (goodIn_app (goodIn_app (goodIn_app (goodIn_app (goodIn_r wsX4_setAwake_r1 [9, 6, 79, 13, 14, 15, 16, 17, 18, 19, 20, 21, 22, 23, 24, 25, 26, 27, 28, 29, 30, 31, 32, 33] rfl (by decide +kernel)) (goodIn_app (goodIn_r wsX4_setAwake_r2 [34, 35, 36, 37, 38, 39, 40, 41, 42, 43, 44, 45, 46, 47, 48, 49, 50, 51, 52, 53, 54, 55, 56, 57] rfl (by decide +kernel)) (goodIn_r wsX4_setAwake_r3 [58, 59, 60, 61, 62, 63, 64, 65, 66, 67, 68, 69, 70] rfl (by decide +kernel)))) (goodIn_r wsX40 [151, 152, 153] rfl (by decide +kernel))) (goodIn_r wsX30 [154, 155, 156, 157] rfl (by decide +kernel))) (goodIn_r wsX20 [166, 167, 168] rfl (by decide +kernel))) (goodIn_r wsX10 [158, 159, 160, 161, 162, 163, 164, 165] rfl (by decide +kernel))) (goodIn_r wsX00 [169, 170, 171, 172, 173, 174, 175, 176, 177] rfl (by decide +kernel)))
set_option maxRecDepth 20000 in
theorem gL_cars_X4_setAwake : GoodIn wsL_cars (wsV RL 75 RX4 yX4_setAwake wsX4_setAwake) := goodIn_app (goodIn_of _ (by decide +kernel)) ggL_cars_X4_setAwake
set_option maxRecDepth 100000 in
theorem ggL_cars_X4_hold : GoodIn wsL_cars wsX4_hold := goodIn_app (a := [.code yX4_hold cX4_hold 5 (some .int)]) (goodIn_r [.code yX4_hold cX4_hold 5 (some .int)] [83] rfl (by decide +kernel)) (goodIn_app (goodIn_app (goodIn_app (goodIn_app (goodIn_app (goodIn_app (goodIn_r wsX4_hold_r1 [6, 7, 84, 9, 85, 86, 87, 88, 41, 89, 43, 13, 14, 15, 16, 17, 18, 19, 20, 21, 22, 23, 24, 25] rfl (by decide +kernel)) (goodIn_app (goodIn_r wsX4_hold_r2 [26, 27, 28, 29, 30, 31, 32, 33, 34, 35, 36, 37, 38, 39, 40, 42, 44, 45, 46, 47, 48, 49, 50, 51] rfl (by decide +kernel)) (goodIn_app (goodIn_r wsX4_hold_r3 [52, 53, 54, 55, 56, 57, 58, 59, 60, 61, 62, 63, 64, 65, 66, 67, 68, 69, 70, 90, 91, 92, 93, 94] rfl (by decide +kernel)) (goodIn_r wsX4_hold_r4 [95, 96, 97] rfl (by decide +kernel))))) (goodIn_r wsX40 [151, 152, 153] rfl (by decide +kernel))) (goodIn_r wsX30 [154, 155, 156, 157] rfl (by decide +kernel))) (goodIn_r wsX10 [158, 159, 160, 161, 162, 163, 164, 165] rfl (by decide +kernel))) (goodIn_r wsX20 [166, 167, 168] rfl (by decide +kernel))) (goodIn_r wsX00 [169, 170, 171, 172, 173, 174, 175, 176, 177] rfl (by decide +kernel)))
set_option maxRecDepth 20000 in
theorem gL_cars_X4_hold : GoodIn wsL_cars (wsV RL 78 RX4 yX4_hold wsX4_hold) := goodIn_app (goodIn_of _ (by decide +kernel)) ggL_cars_X4_hold
set_option maxRecDepth 100000 in
theorem ggL_cars_X4_fail : GoodIn wsL_cars wsX4_fail := goodIn_app (a := [.code yX4_fail cX4_fail 2 (some .int)]) (goodIn_r [.code yX4_fail cX4_fail 2 (some .int)] [101] rfl (by decide +kernel)) (goodIn_app (goodIn_app (goodIn_app (goodIn_app (goodIn_app (goodIn_app (goodIn_r wsX4_fail_r1 [6, 7, 84, 9, 85, 86, 87, 88, 41, 89, 43, 13, 14, 15, 16, 17, 18, 19, 20, 21, 22, 23, 24, 25] rfl (by decide +kernel)) (goodIn_app (goodIn_r wsX4_fail_r2 [26, 27, 28, 29, 30, 31, 32, 33, 34, 35, 36, 37, 38, 39, 40, 42, 44, 45, 46, 47, 48, 49, 50, 51] rfl (by decide +kernel)) (goodIn_app (goodIn_r wsX4_fail_r3 [52, 53, 54, 55, 56, 57, 58, 59, 60, 61, 62, 63, 64, 65, 66, 67, 68, 69, 70, 102, 103, 104, 105, 106] rfl (by decide +kernel)) (goodIn_r wsX4_fail_r4 [107, 108, 109, 110, 111, 112, 113, 114, 115, 116, 117, 118, 119, 120, 121, 122, 123] rfl (by decide +kernel))))) (goodIn_r wsX40 [151, 152, 153] rfl (by decide +kernel))) (goodIn_r wsX30 [154, 155, 156, 157] rfl (by decide +kernel))) (goodIn_r wsX10 [158, 159, 160, 161, 162, 163, 164, 165] rfl (by decide +kernel))) (goodIn_r wsX20 [166, 167, 168] rfl (by decide +kernel))) (goodIn_r wsX00 [169, 170, 171, 172, 173, 174, 175, 176, 177] rfl (by decide +kernel)))
set_option maxRecDepth 20000 in
theorem gL_cars_X4_fail : GoodIn wsL_cars (wsV RL 81 RX4 yX4_fail wsX4_fail) := goodIn_app (goodIn_of _ (by decide +kernel)) ggL_cars_X4_fail
set_option maxRecDepth 100000 in
theorem ggL_cars_X4_repair : GoodIn wsL_cars wsX4_repair := goodIn_app (a := [.code yX4_repair cX4_repair 2 (some .int)]) (goodIn_r [.code yX4_repair cX4_repair 2 (some .int)] [127] rfl (by decide +kernel)) (goodIn_app (goodIn_app (goodIn_app (goodIn_app (goodIn_app (goodIn_app (goodIn_r wsX4_repair_r1 [6, 7, 84, 9, 128, 86, 87, 88, 41, 89, 43, 13, 14, 15, 16, 17, 18, 19, 20, 21, 22, 23, 24, 25] rfl (by decide +kernel)) (goodIn_app (goodIn_r wsX4_repair_r2 [26, 27, 28, 29, 30, 31, 32, 33, 34, 35, 36, 37, 38, 39, 40, 42, 44, 45, 46, 47, 48, 49, 50, 51] rfl (by decide +kernel)) (goodIn_r wsX4_repair_r3 [52, 53, 54, 55, 56, 57, 58, 59, 60, 61, 62, 63, 64, 65, 66, 67, 68, 69, 70] rfl (by decide +kernel)))) (goodIn_r wsX40 [151, 152, 153] rfl (by decide +kernel))) (goodIn_r wsX30 [154, 155, 156, 157] rfl (by decide +kernel))) (goodIn_r wsX10 [158, 159, 160, 161, 162, 163, 164, 165] rfl (by decide +kernel))) (goodIn_r wsX20 [166, 167, 168] rfl (by decide +kernel))) (goodIn_r wsX00 [169, 170, 171, 172, 173, 174, 175, 176, 177] rfl (by decide +kernel)))
set_option maxRecDepth 20000 in
theorem gL_cars_X4_repair : GoodIn wsL_cars (wsV RL 85 RX4 yX4_repair wsX4_repair) := goodIn_app (goodIn_of _ (by decide +kernel)) ggL_cars_X4_repair
set_option maxRecDepth 20000 in
theorem ggL_cars_L_those : GoodIn wsL_cars wsL_those := goodIn_r _ [132, 133, 134, 131, 135, 136, 137, 138, 139, 140] (by decide +kernel) (by decide +kernel)
set_option maxRecDepth 20000 in
theorem gL_cars_L_those : GoodIn wsL_cars (va_wsS RL 38 yL_those wsL_those) := goodIn_app (goodIn_of _ (by decide +kernel)) ggL_cars_L_those
set_option maxRecDepth 20000 in
theorem ggL_cars_L_fails : GoodIn wsL_cars wsL_fails := goodIn_r _ [143, 144, 145, 146, 137, 138, 131, 139, 140, 133, 134, 135, 136, 147, 148, 149, 150] (by decide +kernel) (by decide +kernel)
set_option maxRecDepth 20000 in
theorem gL_cars_L_fails : GoodIn wsL_cars (va_wsS RL 88 yL_fails wsL_fails) := goodIn_app (goodIn_of _ (by decide +kernel)) ggL_cars_L_fails
theorem dL_cars_0 : decode cL_cars 0 = .ok (.iload 7, 2) := by decide +kernel
theorem dL_cars_2 : decode cL_cars 2 = .ok (.ifCond .ne 213, 3) := by decide +kernel
theorem dL_cars_5 : decode cL_cars 5 = .ok (.iload 6, 2) := by decide +kernel
theorem dL_cars_7 : decode cL_cars 7 = .ok (.iconst 4, 1) := by decide +kernel
theorem dL_cars_8 : decode cL_cars 8 = .ok (.irem, 1) := by decide +kernel
theorem dL_cars_9 : decode cL_cars 9 = .ok (.ifCond .le 7, 3) := by decide +kernel
theorem dL_cars_12 : decode cL_cars 12 = .ok (.iconst 0, 1) := by decide +kernel
theorem dL_cars_13 : decode cL_cars 13 = .ok (.goto 10, 3) := by decide +kernel
theorem dL_cars_16 : decode cL_cars 16 = .ok (.iload 6, 2) := by decide +kernel
theorem dL_cars_18 : decode cL_cars 18 = .ok (.iconst 4, 1) := by decide +kernel
theorem dL_cars_19 : decode cL_cars 19 = .ok (.idiv, 1) := by decide +kernel
theorem dL_cars_20 : decode cL_cars 20 = .ok (.bipush 15, 2) := by decide +kernel
theorem dL_cars_22 : decode cL_cars 22 = .ok (.irem, 1) := by decide +kernel
theorem dL_cars_23 : decode cL_cars 23 = .ok (.istore 8, 2) := by decide +kernel
theorem dL_cars_25 : decode cL_cars 25 = .ok (.iload 6, 2) := by decide +kernel
theorem dL_cars_27 : decode cL_cars 27 = .ok (.iconst 4, 1) := by decide +kernel
theorem dL_cars_28 : decode cL_cars 28 = .ok (.irem, 1) := by decide +kernel
theorem dL_cars_29 : decode cL_cars 29 = .ok (.iconst 1, 1) := by decide +kernel
theorem dL_cars_30 : decode cL_cars 30 = .ok (.if_icmp .le 8, 3) := by decide +kernel
theorem dL_cars_33 : decode cL_cars 33 = .ok (.bipush 15, 2) := by decide +kernel
theorem dL_cars_35 : decode cL_cars 35 = .ok (.goto 13, 3) := by decide +kernel
theorem dL_cars_38 : decode cL_cars 38 = .ok (.iconst 1, 1) := by decide +kernel
theorem dL_cars_39 : decode cL_cars 39 = .ok (.iload 6, 2) := by decide +kernel
theorem dL_cars_41 : decode cL_cars 41 = .ok (.bipush 60, 2) := by decide +kernel
theorem dL_cars_43 : decode cL_cars 43 = .ok (.idiv, 1) := by decide +kernel
theorem dL_cars_44 : decode cL_cars 44 = .ok (.bipush 15, 2) := by decide +kernel
theorem dL_cars_46 : decode cL_cars 46 = .ok (.irem, 1) := by decide +kernel
theorem dL_cars_47 : decode cL_cars 47 = .ok (.iadd, 1) := by decide +kernel
theorem dL_cars_48 : decode cL_cars 48 = .ok (.istore 9, 2) := by decide +kernel
theorem dL_cars_50 : decode cL_cars 50 = .ok (.iconst 1, 1) := by decide +kernel
theorem dL_cars_51 : decode cL_cars 51 = .ok (.iload 6, 2) := by decide +kernel
theorem dL_cars_53 : decode cL_cars 53 = .ok (.sipush 900, 3) := by decide +kernel
theorem dL_cars_56 : decode cL_cars 56 = .ok (.idiv, 1) := by decide +kernel
theorem dL_cars_57 : decode cL_cars 57 = .ok (.bipush 8, 2) := by decide +kernel
theorem dL_cars_59 : decode cL_cars 59 = .ok (.irem, 1) := by decide +kernel
theorem dL_cars_60 : decode cL_cars 60 = .ok (.iadd, 1) := by decide +kernel
theorem dL_cars_61 : decode cL_cars 61 = .ok (.istore 10, 2) := by decide +kernel
theorem dL_cars_63 : decode cL_cars 63 = .ok (.iload 9, 2) := by decide +kernel
theorem dL_cars_65 : decode cL_cars 65 = .ok (.iload 8, 2) := by decide +kernel
theorem dL_cars_67 : decode cL_cars 67 = .ok (.if_icmp .gt 23, 3) := by decide +kernel
theorem dL_cars_70 : decode cL_cars 70 = .ok (.aload_n 0, 1) := by decide +kernel
theorem dL_cars_71 : decode cL_cars 71 = .ok (.iload 8, 2) := by decide +kernel
theorem dL_cars_73 : decode cL_cars 73 = .ok (.iload 9, 2) := by decide +kernel
theorem dL_cars_75 : decode cL_cars 75 = .ok (.iload 10, 2) := by decide +kernel
theorem dL_cars_77 : decode cL_cars 77 = .ok (.invokevirtual 69, 3) := by decide +kernel
theorem dL_cars_80 : decode cL_cars 80 = .ok (.iconst (-1), 1) := by decide +kernel
theorem dL_cars_81 : decode cL_cars 81 = .ok (.if_icmp .ne 7, 3) := by decide +kernel
theorem dL_cars_84 : decode cL_cars 84 = .ok (.iconst 1, 1) := by decide +kernel
theorem dL_cars_85 : decode cL_cars 85 = .ok (.goto 4, 3) := by decide +kernel
theorem dL_cars_88 : decode cL_cars 88 = .ok (.iconst 0, 1) := by decide +kernel
theorem dL_cars_89 : decode cL_cars 89 = .ok (.ireturn, 1) := by decide +kernel
theorem dL_cars_90 : decode cL_cars 90 = .ok (.aload_n 1, 1) := by decide +kernel
theorem dL_cars_91 : decode cL_cars 91 = .ok (.iconst 1, 1) := by decide +kernel
theorem dL_cars_92 : decode cL_cars 92 = .ok (.iaload, 1) := by decide +kernel
theorem dL_cars_93 : decode cL_cars 93 = .ok (.iconst 5, 1) := by decide +kernel
theorem dL_cars_94 : decode cL_cars 94 = .ok (.if_icmp .ne 24, 3) := by decide +kernel
theorem dL_cars_97 : decode cL_cars 97 = .ok (.aload_n 0, 1) := by decide +kernel
theorem dL_cars_98 : decode cL_cars 98 = .ok (.iload 8, 2) := by decide +kernel
theorem dL_cars_100 : decode cL_cars 100 = .ok (.iload 9, 2) := by decide +kernel
theorem dL_cars_102 : decode cL_cars 102 = .ok (.iload 10, 2) := by decide +kernel
theorem dL_cars_104 : decode cL_cars 104 = .ok (.invokevirtual 69, 3) := by decide +kernel
theorem dL_cars_107 : decode cL_cars 107 = .ok (.bipush (-3), 2) := by decide +kernel
theorem dL_cars_109 : decode cL_cars 109 = .ok (.if_icmp .ne 7, 3) := by decide +kernel
theorem dL_cars_112 : decode cL_cars 112 = .ok (.iconst 1, 1) := by decide +kernel
theorem dL_cars_113 : decode cL_cars 113 = .ok (.goto 4, 3) := by decide +kernel
theorem dL_cars_116 : decode cL_cars 116 = .ok (.iconst 0, 1) := by decide +kernel
theorem dL_cars_117 : decode cL_cars 117 = .ok (.ireturn, 1) := by decide +kernel
theorem dL_cars_118 : decode cL_cars 118 = .ok (.iconst 0, 1) := by decide +kernel
theorem dL_cars_119 : decode cL_cars 119 = .ok (.istore 11, 2) := by decide +kernel
theorem dL_cars_121 : decode cL_cars 121 = .ok (.iload 11, 2) := by decide +kernel
theorem dL_cars_123 : decode cL_cars 123 = .ok (.bipush 6, 2) := by decide +kernel
theorem dL_cars_125 : decode cL_cars 125 = .ok (.if_icmp .ge 59, 3) := by decide +kernel
theorem dL_cars_128 : decode cL_cars 128 = .ok (.aload_n 3, 1) := by decide +kernel
theorem dL_cars_129 : decode cL_cars 129 = .ok (.bipush 6, 2) := by decide +kernel
theorem dL_cars_131 : decode cL_cars 131 = .ok (.aload_n 1, 1) := by decide +kernel
theorem dL_cars_132 : decode cL_cars 132 = .ok (.iconst 1, 1) := by decide +kernel
theorem dL_cars_133 : decode cL_cars 133 = .ok (.iaload, 1) := by decide +kernel
theorem dL_cars_134 : decode cL_cars 134 = .ok (.imul, 1) := by decide +kernel
theorem dL_cars_135 : decode cL_cars 135 = .ok (.iload 11, 2) := by decide +kernel
theorem dL_cars_137 : decode cL_cars 137 = .ok (.iadd, 1) := by decide +kernel
theorem dL_cars_138 : decode cL_cars 138 = .ok (.iload 11, 2) := by decide +kernel
theorem dL_cars_140 : decode cL_cars 140 = .ok (.ifCond .eq 9, 3) := by decide +kernel
theorem dL_cars_143 : decode cL_cars 143 = .ok (.iload 11, 2) := by decide +kernel
theorem dL_cars_145 : decode cL_cars 145 = .ok (.iconst 3, 1) := by decide +kernel
theorem dL_cars_146 : decode cL_cars 146 = .ok (.if_icmp .ne 8, 3) := by decide +kernel
theorem dL_cars_149 : decode cL_cars 149 = .ok (.iload 8, 2) := by decide +kernel
theorem dL_cars_151 : decode cL_cars 151 = .ok (.goto 26, 3) := by decide +kernel
theorem dL_cars_154 : decode cL_cars 154 = .ok (.iload 11, 2) := by decide +kernel
theorem dL_cars_156 : decode cL_cars 156 = .ok (.iconst 1, 1) := by decide +kernel
theorem dL_cars_157 : decode cL_cars 157 = .ok (.if_icmp .ne 8, 3) := by decide +kernel
theorem dL_cars_160 : decode cL_cars 160 = .ok (.iload 9, 2) := by decide +kernel
theorem dL_cars_162 : decode cL_cars 162 = .ok (.goto 15, 3) := by decide +kernel
theorem dL_cars_165 : decode cL_cars 165 = .ok (.iload 11, 2) := by decide +kernel
theorem dL_cars_167 : decode cL_cars 167 = .ok (.iconst 2, 1) := by decide +kernel
theorem dL_cars_168 : decode cL_cars 168 = .ok (.if_icmp .ne 8, 3) := by decide +kernel
theorem dL_cars_171 : decode cL_cars 171 = .ok (.iload 10, 2) := by decide +kernel
theorem dL_cars_173 : decode cL_cars 173 = .ok (.goto 4, 3) := by decide +kernel
theorem dL_cars_176 : decode cL_cars 176 = .ok (.iconst 0, 1) := by decide +kernel
theorem dL_cars_177 : decode cL_cars 177 = .ok (.iastore, 1) := by decide +kernel
theorem dL_cars_178 : decode cL_cars 178 = .ok (.iinc 11 1, 3) := by decide +kernel
theorem dL_cars_181 : decode cL_cars 181 = .ok (.goto (-60), 3) := by decide +kernel
theorem dL_cars_184 : decode cL_cars 184 = .ok (.aload_n 1, 1) := by decide +kernel
theorem dL_cars_185 : decode cL_cars 185 = .ok (.iconst 1, 1) := by decide +kernel
theorem dL_cars_186 : decode cL_cars 186 = .ok (.dup2, 1) := by decide +kernel
theorem dL_cars_187 : decode cL_cars 187 = .ok (.iaload, 1) := by decide +kernel
theorem dL_cars_188 : decode cL_cars 188 = .ok (.iconst 1, 1) := by decide +kernel
theorem dL_cars_189 : decode cL_cars 189 = .ok (.iadd, 1) := by decide +kernel
theorem dL_cars_190 : decode cL_cars 190 = .ok (.iastore, 1) := by decide +kernel
theorem dL_cars_191 : decode cL_cars 191 = .ok (.aload_n 0, 1) := by decide +kernel
theorem dL_cars_192 : decode cL_cars 192 = .ok (.iload 8, 2) := by decide +kernel
theorem dL_cars_194 : decode cL_cars 194 = .ok (.iload 9, 2) := by decide +kernel
theorem dL_cars_196 : decode cL_cars 196 = .ok (.iload 10, 2) := by decide +kernel
theorem dL_cars_198 : decode cL_cars 198 = .ok (.invokevirtual 69, 3) := by decide +kernel
theorem dL_cars_201 : decode cL_cars 201 = .ok (.aload_n 1, 1) := by decide +kernel
theorem dL_cars_202 : decode cL_cars 202 = .ok (.iconst 1, 1) := by decide +kernel
theorem dL_cars_203 : decode cL_cars 203 = .ok (.iaload, 1) := by decide +kernel
theorem dL_cars_204 : decode cL_cars 204 = .ok (.iconst 1, 1) := by decide +kernel
theorem dL_cars_205 : decode cL_cars 205 = .ok (.isub, 1) := by decide +kernel
theorem dL_cars_206 : decode cL_cars 206 = .ok (.if_icmp .ne 7, 3) := by decide +kernel
theorem dL_cars_209 : decode cL_cars 209 = .ok (.iconst 1, 1) := by decide +kernel
theorem dL_cars_210 : decode cL_cars 210 = .ok (.goto 4, 3) := by decide +kernel
theorem dL_cars_213 : decode cL_cars 213 = .ok (.iconst 0, 1) := by decide +kernel
theorem dL_cars_214 : decode cL_cars 214 = .ok (.ireturn, 1) := by decide +kernel
theorem dL_cars_215 : decode cL_cars 215 = .ok (.iload 7, 2) := by decide +kernel
theorem dL_cars_217 : decode cL_cars 217 = .ok (.iconst 1, 1) := by decide +kernel
theorem dL_cars_218 : decode cL_cars 218 = .ok (.if_icmp .ne 71, 3) := by decide +kernel
theorem dL_cars_221 : decode cL_cars 221 = .ok (.iload 6, 2) := by decide +kernel
theorem dL_cars_223 : decode cL_cars 223 = .ok (.iconst 3, 1) := by decide +kernel
theorem dL_cars_224 : decode cL_cars 224 = .ok (.irem, 1) := by decide +kernel
theorem dL_cars_225 : decode cL_cars 225 = .ok (.ifCond .ne 15, 3) := by decide +kernel
theorem dL_cars_228 : decode cL_cars 228 = .ok (.aload_n 1, 1) := by decide +kernel
theorem dL_cars_229 : decode cL_cars 229 = .ok (.iconst 0, 1) := by decide +kernel
theorem dL_cars_230 : decode cL_cars 230 = .ok (.iaload, 1) := by decide +kernel
theorem dL_cars_231 : decode cL_cars 231 = .ok (.bipush 60, 2) := by decide +kernel
theorem dL_cars_233 : decode cL_cars 233 = .ok (.idiv, 1) := by decide +kernel
theorem dL_cars_234 : decode cL_cars 234 = .ok (.bipush 24, 2) := by decide +kernel
theorem dL_cars_236 : decode cL_cars 236 = .ok (.irem, 1) := by decide +kernel
theorem dL_cars_237 : decode cL_cars 237 = .ok (.goto 10, 3) := by decide +kernel
theorem dL_cars_240 : decode cL_cars 240 = .ok (.iload 6, 2) := by decide +kernel
theorem dL_cars_242 : decode cL_cars 242 = .ok (.iconst 3, 1) := by decide +kernel
theorem dL_cars_243 : decode cL_cars 243 = .ok (.idiv, 1) := by decide +kernel
theorem dL_cars_244 : decode cL_cars 244 = .ok (.bipush 24, 2) := by decide +kernel
theorem dL_cars_246 : decode cL_cars 246 = .ok (.irem, 1) := by decide +kernel
theorem dL_cars_247 : decode cL_cars 247 = .ok (.istore 8, 2) := by decide +kernel
theorem dL_cars_249 : decode cL_cars 249 = .ok (.aload_n 2, 1) := by decide +kernel
theorem dL_cars_250 : decode cL_cars 250 = .ok (.iload 8, 2) := by decide +kernel
theorem dL_cars_252 : decode cL_cars 252 = .ok (.iaload, 1) := by decide +kernel
theorem dL_cars_253 : decode cL_cars 253 = .ok (.istore 9, 2) := by decide +kernel
theorem dL_cars_255 : decode cL_cars 255 = .ok (.aload_n 2, 1) := by decide +kernel
theorem dL_cars_256 : decode cL_cars 256 = .ok (.iload 8, 2) := by decide +kernel
theorem dL_cars_258 : decode cL_cars 258 = .ok (.iconst 1, 1) := by decide +kernel
theorem dL_cars_259 : decode cL_cars 259 = .ok (.iload 6, 2) := by decide +kernel
theorem dL_cars_261 : decode cL_cars 261 = .ok (.bipush 72, 2) := by decide +kernel
theorem dL_cars_263 : decode cL_cars 263 = .ok (.idiv, 1) := by decide +kernel
theorem dL_cars_264 : decode cL_cars 264 = .ok (.iconst 5, 1) := by decide +kernel
theorem dL_cars_265 : decode cL_cars 265 = .ok (.irem, 1) := by decide +kernel
theorem dL_cars_266 : decode cL_cars 266 = .ok (.iadd, 1) := by decide +kernel
theorem dL_cars_267 : decode cL_cars 267 = .ok (.iastore, 1) := by decide +kernel
theorem dL_cars_268 : decode cL_cars 268 = .ok (.aload_n 0, 1) := by decide +kernel
theorem dL_cars_269 : decode cL_cars 269 = .ok (.iload 8, 2) := by decide +kernel
theorem dL_cars_271 : decode cL_cars 271 = .ok (.aload_n 2, 1) := by decide +kernel
theorem dL_cars_272 : decode cL_cars 272 = .ok (.iload 8, 2) := by decide +kernel
theorem dL_cars_274 : decode cL_cars 274 = .ok (.iaload, 1) := by decide +kernel
theorem dL_cars_275 : decode cL_cars 275 = .ok (.invokevirtual 75, 3) := by decide +kernel
theorem dL_cars_278 : decode cL_cars 278 = .ok (.iload 9, 2) := by decide +kernel
theorem dL_cars_280 : decode cL_cars 280 = .ok (.if_icmp .ne 7, 3) := by decide +kernel
theorem dL_cars_283 : decode cL_cars 283 = .ok (.iconst 1, 1) := by decide +kernel
theorem dL_cars_284 : decode cL_cars 284 = .ok (.goto 4, 3) := by decide +kernel
theorem dL_cars_287 : decode cL_cars 287 = .ok (.iconst 0, 1) := by decide +kernel
theorem dL_cars_288 : decode cL_cars 288 = .ok (.ireturn, 1) := by decide +kernel
theorem dL_cars_289 : decode cL_cars 289 = .ok (.aload_n 1, 1) := by decide +kernel
theorem dL_cars_290 : decode cL_cars 290 = .ok (.iconst 1, 1) := by decide +kernel
theorem dL_cars_291 : decode cL_cars 291 = .ok (.iaload, 1) := by decide +kernel
theorem dL_cars_292 : decode cL_cars 292 = .ok (.ifCond .ne 37, 3) := by decide +kernel
theorem dL_cars_295 : decode cL_cars 295 = .ok (.aload_n 0, 1) := by decide +kernel
theorem dL_cars_296 : decode cL_cars 296 = .ok (.iconst 0, 1) := by decide +kernel
theorem dL_cars_297 : decode cL_cars 297 = .ok (.iconst 1, 1) := by decide +kernel
theorem dL_cars_298 : decode cL_cars 298 = .ok (.invokevirtual 78, 3) := by decide +kernel
theorem dL_cars_301 : decode cL_cars 301 = .ok (.iconst (-1), 1) := by decide +kernel
theorem dL_cars_302 : decode cL_cars 302 = .ok (.if_icmp .ne 25, 3) := by decide +kernel
theorem dL_cars_305 : decode cL_cars 305 = .ok (.aload_n 0, 1) := by decide +kernel
theorem dL_cars_306 : decode cL_cars 306 = .ok (.iconst 0, 1) := by decide +kernel
theorem dL_cars_307 : decode cL_cars 307 = .ok (.invokevirtual 81, 3) := by decide +kernel
theorem dL_cars_310 : decode cL_cars 310 = .ok (.iconst (-1), 1) := by decide +kernel
theorem dL_cars_311 : decode cL_cars 311 = .ok (.if_icmp .ne 16, 3) := by decide +kernel
theorem dL_cars_314 : decode cL_cars 314 = .ok (.aload_n 0, 1) := by decide +kernel
theorem dL_cars_315 : decode cL_cars 315 = .ok (.iconst 0, 1) := by decide +kernel
theorem dL_cars_316 : decode cL_cars 316 = .ok (.invokevirtual 85, 3) := by decide +kernel
theorem dL_cars_319 : decode cL_cars 319 = .ok (.iconst (-1), 1) := by decide +kernel
theorem dL_cars_320 : decode cL_cars 320 = .ok (.if_icmp .ne 7, 3) := by decide +kernel
theorem dL_cars_323 : decode cL_cars 323 = .ok (.iconst 1, 1) := by decide +kernel
theorem dL_cars_324 : decode cL_cars 324 = .ok (.goto 4, 3) := by decide +kernel
theorem dL_cars_327 : decode cL_cars 327 = .ok (.iconst 0, 1) := by decide +kernel
theorem dL_cars_328 : decode cL_cars 328 = .ok (.ireturn, 1) := by decide +kernel
theorem dL_cars_329 : decode cL_cars 329 = .ok (.iload 6, 2) := by decide +kernel
theorem dL_cars_331 : decode cL_cars 331 = .ok (.aload_n 1, 1) := by decide +kernel
theorem dL_cars_332 : decode cL_cars 332 = .ok (.iconst 1, 1) := by decide +kernel
theorem dL_cars_333 : decode cL_cars 333 = .ok (.iaload, 1) := by decide +kernel
theorem dL_cars_334 : decode cL_cars 334 = .ok (.irem, 1) := by decide +kernel
theorem dL_cars_335 : decode cL_cars 335 = .ok (.istore 8, 2) := by decide +kernel
theorem dL_cars_337 : decode cL_cars 337 = .ok (.bipush 6, 2) := by decide +kernel
theorem dL_cars_339 : decode cL_cars 339 = .ok (.iload 8, 2) := by decide +kernel
theorem dL_cars_341 : decode cL_cars 341 = .ok (.imul, 1) := by decide +kernel
theorem dL_cars_342 : decode cL_cars 342 = .ok (.iconst 4, 1) := by decide +kernel
theorem dL_cars_343 : decode cL_cars 343 = .ok (.iadd, 1) := by decide +kernel
theorem dL_cars_344 : decode cL_cars 344 = .ok (.istore 9, 2) := by decide +kernel
theorem dL_cars_346 : decode cL_cars 346 = .ok (.iload 7, 2) := by decide +kernel
theorem dL_cars_348 : decode cL_cars 348 = .ok (.iconst 4, 1) := by decide +kernel
theorem dL_cars_349 : decode cL_cars 349 = .ok (.if_icmp .ge 89, 3) := by decide +kernel
theorem dL_cars_352 : decode cL_cars 352 = .ok (.iload 6, 2) := by decide +kernel
theorem dL_cars_354 : decode cL_cars 354 = .ok (.iconst 5, 1) := by decide +kernel
theorem dL_cars_355 : decode cL_cars 355 = .ok (.idiv, 1) := by decide +kernel
theorem dL_cars_356 : decode cL_cars 356 = .ok (.iconst 2, 1) := by decide +kernel
theorem dL_cars_357 : decode cL_cars 357 = .ok (.irem, 1) := by decide +kernel
theorem dL_cars_358 : decode cL_cars 358 = .ok (.istore 10, 2) := by decide +kernel
theorem dL_cars_360 : decode cL_cars 360 = .ok (.aload_n 3, 1) := by decide +kernel
theorem dL_cars_361 : decode cL_cars 361 = .ok (.iload 9, 2) := by decide +kernel
theorem dL_cars_363 : decode cL_cars 363 = .ok (.iaload, 1) := by decide +kernel
theorem dL_cars_364 : decode cL_cars 364 = .ok (.iconst 2, 1) := by decide +kernel
theorem dL_cars_365 : decode cL_cars 365 = .ok (.if_icmp .eq 12, 3) := by decide +kernel
theorem dL_cars_368 : decode cL_cars 368 = .ok (.aload_n 3, 1) := by decide +kernel
theorem dL_cars_369 : decode cL_cars 369 = .ok (.iload 9, 2) := by decide +kernel
theorem dL_cars_371 : decode cL_cars 371 = .ok (.iaload, 1) := by decide +kernel
theorem dL_cars_372 : decode cL_cars 372 = .ok (.iload 10, 2) := by decide +kernel
theorem dL_cars_374 : decode cL_cars 374 = .ok (.if_icmp .ne 22, 3) := by decide +kernel
theorem dL_cars_377 : decode cL_cars 377 = .ok (.aload_n 0, 1) := by decide +kernel
theorem dL_cars_378 : decode cL_cars 378 = .ok (.iload 8, 2) := by decide +kernel
theorem dL_cars_380 : decode cL_cars 380 = .ok (.iload 10, 2) := by decide +kernel
theorem dL_cars_382 : decode cL_cars 382 = .ok (.invokevirtual 78, 3) := by decide +kernel
theorem dL_cars_385 : decode cL_cars 385 = .ok (.bipush (-2), 2) := by decide +kernel
theorem dL_cars_387 : decode cL_cars 387 = .ok (.if_icmp .ne 7, 3) := by decide +kernel
theorem dL_cars_390 : decode cL_cars 390 = .ok (.iconst 1, 1) := by decide +kernel
theorem dL_cars_391 : decode cL_cars 391 = .ok (.goto 4, 3) := by decide +kernel
theorem dL_cars_394 : decode cL_cars 394 = .ok (.iconst 0, 1) := by decide +kernel
theorem dL_cars_395 : decode cL_cars 395 = .ok (.ireturn, 1) := by decide +kernel
theorem dL_cars_396 : decode cL_cars 396 = .ok (.aload_n 3, 1) := by decide +kernel
theorem dL_cars_397 : decode cL_cars 397 = .ok (.iload 9, 2) := by decide +kernel
theorem dL_cars_399 : decode cL_cars 399 = .ok (.iload 10, 2) := by decide +kernel
theorem dL_cars_401 : decode cL_cars 401 = .ok (.iastore, 1) := by decide +kernel
theorem dL_cars_402 : decode cL_cars 402 = .ok (.aload_n 0, 1) := by decide +kernel
theorem dL_cars_403 : decode cL_cars 403 = .ok (.iload 8, 2) := by decide +kernel
theorem dL_cars_405 : decode cL_cars 405 = .ok (.iload 10, 2) := by decide +kernel
theorem dL_cars_407 : decode cL_cars 407 = .ok (.invokevirtual 78, 3) := by decide +kernel
theorem dL_cars_410 : decode cL_cars 410 = .ok (.aload_n 1, 1) := by decide +kernel
theorem dL_cars_411 : decode cL_cars 411 = .ok (.aload 4, 2) := by decide +kernel
theorem dL_cars_413 : decode cL_cars 413 = .ok (.iload 8, 2) := by decide +kernel
theorem dL_cars_415 : decode cL_cars 415 = .ok (.iconst 1, 1) := by decide +kernel
theorem dL_cars_416 : decode cL_cars 416 = .ok (.invokestatic 38, 3) := by decide +kernel
theorem dL_cars_419 : decode cL_cars 419 = .ok (.aload_n 1, 1) := by decide +kernel
theorem dL_cars_420 : decode cL_cars 420 = .ok (.aload 4, 2) := by decide +kernel
theorem dL_cars_422 : decode cL_cars 422 = .ok (.iload 8, 2) := by decide +kernel
theorem dL_cars_424 : decode cL_cars 424 = .ok (.iconst 2, 1) := by decide +kernel
theorem dL_cars_425 : decode cL_cars 425 = .ok (.invokestatic 38, 3) := by decide +kernel
theorem dL_cars_428 : decode cL_cars 428 = .ok (.iadd, 1) := by decide +kernel
theorem dL_cars_429 : decode cL_cars 429 = .ok (.if_icmp .ne 7, 3) := by decide +kernel
theorem dL_cars_432 : decode cL_cars 432 = .ok (.iconst 1, 1) := by decide +kernel
theorem dL_cars_433 : decode cL_cars 433 = .ok (.goto 4, 3) := by decide +kernel
theorem dL_cars_436 : decode cL_cars 436 = .ok (.iconst 0, 1) := by decide +kernel
theorem dL_cars_437 : decode cL_cars 437 = .ok (.ireturn, 1) := by decide +kernel
theorem dL_cars_438 : decode cL_cars 438 = .ok (.iload 6, 2) := by decide +kernel
theorem dL_cars_440 : decode cL_cars 440 = .ok (.iconst 5, 1) := by decide +kernel
theorem dL_cars_441 : decode cL_cars 441 = .ok (.idiv, 1) := by decide +kernel
theorem dL_cars_442 : decode cL_cars 442 = .ok (.iconst 3, 1) := by decide +kernel
theorem dL_cars_443 : decode cL_cars 443 = .ok (.irem, 1) := by decide +kernel
theorem dL_cars_444 : decode cL_cars 444 = .ok (.ifCond .ne 62, 3) := by decide +kernel
theorem dL_cars_447 : decode cL_cars 447 = .ok (.aload_n 3, 1) := by decide +kernel
theorem dL_cars_448 : decode cL_cars 448 = .ok (.iload 9, 2) := by decide +kernel
theorem dL_cars_450 : decode cL_cars 450 = .ok (.iaload, 1) := by decide +kernel
theorem dL_cars_451 : decode cL_cars 451 = .ok (.iconst 2, 1) := by decide +kernel
theorem dL_cars_452 : decode cL_cars 452 = .ok (.if_icmp .ne 20, 3) := by decide +kernel
theorem dL_cars_455 : decode cL_cars 455 = .ok (.aload_n 0, 1) := by decide +kernel
theorem dL_cars_456 : decode cL_cars 456 = .ok (.iload 8, 2) := by decide +kernel
theorem dL_cars_458 : decode cL_cars 458 = .ok (.invokevirtual 81, 3) := by decide +kernel
theorem dL_cars_461 : decode cL_cars 461 = .ok (.bipush (-2), 2) := by decide +kernel
theorem dL_cars_463 : decode cL_cars 463 = .ok (.if_icmp .ne 7, 3) := by decide +kernel
theorem dL_cars_466 : decode cL_cars 466 = .ok (.iconst 1, 1) := by decide +kernel
theorem dL_cars_467 : decode cL_cars 467 = .ok (.goto 4, 3) := by decide +kernel
theorem dL_cars_470 : decode cL_cars 470 = .ok (.iconst 0, 1) := by decide +kernel
theorem dL_cars_471 : decode cL_cars 471 = .ok (.ireturn, 1) := by decide +kernel
theorem dL_cars_472 : decode cL_cars 472 = .ok (.aload_n 1, 1) := by decide +kernel
theorem dL_cars_473 : decode cL_cars 473 = .ok (.aload_n 3, 1) := by decide +kernel
theorem dL_cars_474 : decode cL_cars 474 = .ok (.aload 4, 2) := by decide +kernel
theorem dL_cars_476 : decode cL_cars 476 = .ok (.aload 5, 2) := by decide +kernel
theorem dL_cars_478 : decode cL_cars 478 = .ok (.iload 8, 2) := by decide +kernel
theorem dL_cars_480 : decode cL_cars 480 = .ok (.invokestatic 88, 3) := by decide +kernel
theorem dL_cars_483 : decode cL_cars 483 = .ok (.aload_n 0, 1) := by decide +kernel
theorem dL_cars_484 : decode cL_cars 484 = .ok (.iload 8, 2) := by decide +kernel
theorem dL_cars_486 : decode cL_cars 486 = .ok (.invokevirtual 81, 3) := by decide +kernel
theorem dL_cars_489 : decode cL_cars 489 = .ok (.aload_n 1, 1) := by decide +kernel
theorem dL_cars_490 : decode cL_cars 490 = .ok (.aload 4, 2) := by decide +kernel
theorem dL_cars_492 : decode cL_cars 492 = .ok (.iconst (-1), 1) := by decide +kernel
theorem dL_cars_493 : decode cL_cars 493 = .ok (.iconst 0, 1) := by decide +kernel
theorem dL_cars_494 : decode cL_cars 494 = .ok (.invokestatic 38, 3) := by decide +kernel
theorem dL_cars_497 : decode cL_cars 497 = .ok (.if_icmp .ne 7, 3) := by decide +kernel
theorem dL_cars_500 : decode cL_cars 500 = .ok (.iconst 1, 1) := by decide +kernel
theorem dL_cars_501 : decode cL_cars 501 = .ok (.goto 4, 3) := by decide +kernel
theorem dL_cars_504 : decode cL_cars 504 = .ok (.iconst 0, 1) := by decide +kernel
theorem dL_cars_505 : decode cL_cars 505 = .ok (.ireturn, 1) := by decide +kernel
theorem dL_cars_506 : decode cL_cars 506 = .ok (.aload_n 3, 1) := by decide +kernel
theorem dL_cars_507 : decode cL_cars 507 = .ok (.iload 9, 2) := by decide +kernel
theorem dL_cars_509 : decode cL_cars 509 = .ok (.iaload, 1) := by decide +kernel
theorem dL_cars_510 : decode cL_cars 510 = .ok (.iconst 2, 1) := by decide +kernel
theorem dL_cars_511 : decode cL_cars 511 = .ok (.if_icmp .eq 20, 3) := by decide +kernel
theorem dL_cars_514 : decode cL_cars 514 = .ok (.aload_n 0, 1) := by decide +kernel
theorem dL_cars_515 : decode cL_cars 515 = .ok (.iload 8, 2) := by decide +kernel
theorem dL_cars_517 : decode cL_cars 517 = .ok (.invokevirtual 85, 3) := by decide +kernel
theorem dL_cars_520 : decode cL_cars 520 = .ok (.bipush (-2), 2) := by decide +kernel
theorem dL_cars_522 : decode cL_cars 522 = .ok (.if_icmp .ne 7, 3) := by decide +kernel
theorem dL_cars_525 : decode cL_cars 525 = .ok (.iconst 1, 1) := by decide +kernel
theorem dL_cars_526 : decode cL_cars 526 = .ok (.goto 4, 3) := by decide +kernel
theorem dL_cars_529 : decode cL_cars 529 = .ok (.iconst 0, 1) := by decide +kernel
theorem dL_cars_530 : decode cL_cars 530 = .ok (.ireturn, 1) := by decide +kernel
theorem dL_cars_531 : decode cL_cars 531 = .ok (.aload_n 3, 1) := by decide +kernel
theorem dL_cars_532 : decode cL_cars 532 = .ok (.iload 9, 2) := by decide +kernel
theorem dL_cars_534 : decode cL_cars 534 = .ok (.iconst 0, 1) := by decide +kernel
theorem dL_cars_535 : decode cL_cars 535 = .ok (.iastore, 1) := by decide +kernel
theorem dL_cars_536 : decode cL_cars 536 = .ok (.aload_n 0, 1) := by decide +kernel
theorem dL_cars_537 : decode cL_cars 537 = .ok (.iload 8, 2) := by decide +kernel
theorem dL_cars_539 : decode cL_cars 539 = .ok (.invokevirtual 85, 3) := by decide +kernel
theorem dL_cars_542 : decode cL_cars 542 = .ok (.aload_n 3, 1) := by decide +kernel
theorem dL_cars_543 : decode cL_cars 543 = .ok (.iload 9, 2) := by decide +kernel
theorem dL_cars_545 : decode cL_cars 545 = .ok (.iconst 1, 1) := by decide +kernel
theorem dL_cars_546 : decode cL_cars 546 = .ok (.isub, 1) := by decide +kernel
theorem dL_cars_547 : decode cL_cars 547 = .ok (.iaload, 1) := by decide +kernel
theorem dL_cars_548 : decode cL_cars 548 = .ok (.if_icmp .ne 7, 3) := by decide +kernel
theorem dL_cars_551 : decode cL_cars 551 = .ok (.iconst 1, 1) := by decide +kernel
theorem dL_cars_552 : decode cL_cars 552 = .ok (.goto 4, 3) := by decide +kernel
theorem dL_cars_555 : decode cL_cars 555 = .ok (.iconst 0, 1) := by decide +kernel
theorem dL_cars_556 : decode cL_cars 556 = .ok (.ireturn, 1) := by decide +kernel
set_option maxRecDepth 20000 in
theorem ggL_acts_L_low : GoodIn wsL_acts wsL_low := goodIn_r _ [5, 6] (by decide +kernel) (by decide +kernel)
set_option maxRecDepth 20000 in
theorem gL_acts_L_low : GoodIn wsL_acts (va_wsS RL 92 yL_low wsL_low) := goodIn_app (goodIn_of _ (by decide +kernel)) ggL_acts_L_low
set_option maxRecDepth 100000 in
theorem ggL_acts_L_cars : GoodIn wsL_acts wsL_cars := goodIn_app (a := [.code yL_cars cL_cars 12 (some .boolean)]) (goodIn_r [.code yL_cars cL_cars 12 (some .boolean)] [9] rfl (by decide +kernel)) (goodIn_app (goodIn_app (goodIn_app (goodIn_app (goodIn_app (goodIn_app (goodIn_r wsL_cars_r1 [10, 11, 12, 13, 14, 15, 16, 17, 18, 19, 20, 21, 22, 23, 24, 25, 26, 27, 28, 29, 30, 31, 32, 33] rfl (by decide +kernel)) (goodIn_app (goodIn_r wsL_cars_r2 [34, 35, 36, 37, 38, 39, 40, 41, 42, 43, 44, 45, 46, 47, 48, 49, 50, 51, 52, 53, 54, 55, 56, 57] rfl (by decide +kernel)) (goodIn_app (goodIn_r wsL_cars_r3 [58, 59, 60, 61, 62, 63, 64, 65, 66, 67, 68, 69, 70, 71, 72, 73, 74, 75, 76, 77, 78, 79, 80, 81] rfl (by decide +kernel)) (goodIn_app (goodIn_r wsL_cars_r4 [82, 83, 84, 85, 86, 87, 88, 89, 90, 91, 92, 93, 94, 95, 96, 97, 98, 99, 100, 101, 102, 103, 104, 105] rfl (by decide +kernel)) (goodIn_app (goodIn_r wsL_cars_r5 [106, 107, 108, 109, 110, 111, 112, 113, 114, 115, 116, 117, 118, 119, 120, 121, 122, 123, 124, 125, 126, 127, 128, 129] rfl (by decide +kernel)) (goodIn_app (goodIn_r wsL_cars_r6 [130, 131, 132, 133, 134, 135, 136, 137, 138, 139, 4, 140, 141, 142, 143, 144, 145, 146, 147, 148, 149, 150, 151, 152] rfl (by decide +kernel)) (goodIn_r wsL_cars_r7 [153, 154, 155, 156, 157, 158] rfl (by decide +kernel)))))))) (goodIn_r wsX40 [288, 289, 290] rfl (by decide +kernel))) (goodIn_r wsX30 [291, 292, 293, 294] rfl (by decide +kernel))) (goodIn_r wsX10 [295, 296, 297, 298, 299, 300, 301, 302] rfl (by decide +kernel))) (goodIn_r wsX20 [303, 304, 305] rfl (by decide +kernel))) (goodIn_r wsX00 [306, 307, 308, 309, 310, 311, 312, 313, 314] rfl (by decide +kernel)))
set_option maxRecDepth 20000 in
theorem gL_acts_L_cars : GoodIn wsL_acts (va_wsS RL 95 yL_cars wsL_cars) := goodIn_app (goodIn_of _ (by decide +kernel)) ggL_acts_L_cars
set_option maxRecDepth 100000 in
theorem ggL_acts_X4_call : GoodIn wsL_acts wsX4_call := goodIn_app (a := [.code yX4_call cX4_call 5 (some .int)]) (goodIn_r [.code yX4_call cX4_call 5 (some .int)] [162] rfl (by decide +kernel)) (goodIn_app (goodIn_app (goodIn_app (goodIn_app (goodIn_app (goodIn_app (goodIn_r wsX4_call_r1 [15, 94, 163, 18, 164, 165, 166, 13, 167, 19, 20, 21, 22, 23, 24, 25, 26, 27, 28, 29, 30, 31, 32, 33] rfl (by decide +kernel)) (goodIn_app (goodIn_r wsX4_call_r2 [34, 35, 36, 37, 38, 39, 40, 41, 42, 43, 44, 45, 46, 47, 48, 49, 50, 51, 52, 53, 54, 55, 56, 57] rfl (by decide +kernel)) (goodIn_app (goodIn_r wsX4_call_r3 [58, 59, 60, 61, 62, 63, 64, 65, 66, 67, 68, 69, 70, 71, 72, 73, 74, 75, 76, 77, 78, 79, 168, 169] rfl (by decide +kernel)) (goodIn_app (goodIn_r wsX4_call_r4 [170, 171, 172, 173, 174, 175, 176, 115, 177, 178, 179, 180, 181, 182, 183, 184, 185, 186, 187, 188, 189, 190, 191, 192] rfl (by decide +kernel)) (goodIn_app (goodIn_r wsX4_call_r5 [116, 193, 194, 195, 196, 197, 198, 199, 125, 126, 127, 128, 121, 122, 123, 124, 200, 201, 202, 203, 204, 205, 206, 207] rfl (by decide +kernel)) (goodIn_r wsX4_call_r6 [100, 101, 102, 103, 104, 105, 106, 208, 209, 210, 211, 212, 213, 214, 215, 216, 217, 218, 219] rfl (by decide +kernel))))))) (goodIn_r wsX40 [288, 289, 290] rfl (by decide +kernel))) (goodIn_r wsX30 [291, 292, 293, 294] rfl (by decide +kernel))) (goodIn_r wsX00 [306, 307, 308, 309, 310, 311, 312, 313, 314] rfl (by decide +kernel))) (goodIn_r wsX20 [303, 304, 305] rfl (by decide +kernel))) (goodIn_r wsX10 [295, 296, 297, 298, 299, 300, 301, 302] rfl (by decide +kernel)))
set_option maxRecDepth 20000 in
theorem gL_acts_X4_call : GoodIn wsL_acts (wsV RL 99 RX4 yX4_call wsX4_call) := goodIn_app (goodIn_of _ (by decide +kernel)) ggL_acts_X4_call
set_option maxRecDepth 20000 in
theorem ggL_acts_L_gives : GoodIn wsL_acts wsL_gives := goodIn_r _ [222, 152, 223, 224, 225, 4, 226, 158, 155, 156, 157, 227, 228, 229, 230, 231, 232, 233, 234, 235, 236, 237, 238, 145, 146, 147, 148, 141, 142, 143, 144, 138, 139, 140] (by decide +kernel) (by decide +kernel)
set_option maxRecDepth 20000 in
theorem gL_acts_L_gives : GoodIn wsL_acts (va_wsS RL 57 yL_gives wsL_gives) := goodIn_app (goodIn_of _ (by decide +kernel)) ggL_acts_L_gives
set_option maxRecDepth 100000 in
theorem ggL_acts_L_tick : GoodIn wsL_acts wsL_tick := goodIn_app (a := [.code yL_tick cL_tick 6 none]) (goodIn_r [.code yL_tick cL_tick 6 none] [241] rfl (by decide +kernel)) (goodIn_app (goodIn_r wsL_tick_r1 [141, 142, 4, 143, 144, 220, 221, 222, 152, 223, 224, 225, 226, 158, 155, 156, 157, 227, 228, 229, 230, 231, 232, 233] rfl (by decide +kernel)) (goodIn_r wsL_tick_r2 [234, 235, 236, 237, 238, 145, 146, 147, 148, 138, 139, 140, 242, 243, 244, 245, 246, 247] rfl (by decide +kernel)))
set_option maxRecDepth 20000 in
theorem gL_acts_L_tick : GoodIn wsL_acts (va_wsS RL 102 yL_tick wsL_tick) := goodIn_app (goodIn_of _ (by decide +kernel)) ggL_acts_L_tick
set_option maxRecDepth 100000 in
theorem ggL_acts_X4_pass : GoodIn wsL_acts wsX4_pass := goodIn_app (a := [.code yX4_pass cX4_pass 3 (some .int)]) (goodIn_r [.code yX4_pass cX4_pass 3 (some .int)] [251] rfl (by decide +kernel)) (goodIn_app (goodIn_app (goodIn_app (goodIn_app (goodIn_app (goodIn_app (goodIn_r wsX4_pass_r1 [15, 164, 18, 94, 22, 23, 24, 25, 26, 27, 28, 29, 30, 31, 32, 33, 34, 35, 36, 37, 38, 39, 40, 41] rfl (by decide +kernel)) (goodIn_app (goodIn_r wsX4_pass_r2 [42, 43, 44, 45, 46, 47, 48, 49, 50, 51, 52, 53, 54, 55, 56, 57, 58, 59, 60, 61, 62, 63, 64, 65] rfl (by decide +kernel)) (goodIn_app (goodIn_r wsX4_pass_r3 [66, 67, 68, 69, 70, 71, 72, 73, 74, 75, 76, 77, 78, 79, 252, 253, 254, 255, 256, 257, 258, 259, 172, 115] rfl (by decide +kernel)) (goodIn_app (goodIn_r wsX4_pass_r4 [260, 169, 170, 171, 173, 174, 175, 176, 177, 178, 179, 180, 181, 182, 183, 184, 185, 186, 187, 188, 189, 190, 191, 192] rfl (by decide +kernel)) (goodIn_app (goodIn_r wsX4_pass_r5 [116, 193, 194, 195, 196, 197, 198, 199, 125, 126, 127, 128, 121, 122, 123, 124, 200, 201, 202, 203, 204, 205, 206, 207] rfl (by decide +kernel)) (goodIn_app (goodIn_r wsX4_pass_r6 [100, 101, 102, 103, 104, 105, 106, 261, 213, 214, 215, 216, 217, 218, 219, 262, 263, 264, 265, 266, 267, 268, 269, 270] rfl (by decide +kernel)) (goodIn_r wsX4_pass_r7 [271, 272, 273, 274, 275, 276, 277, 278, 279, 280, 281, 282, 283, 284, 285, 286, 287, 129, 130, 131, 132] rfl (by decide +kernel)))))))) (goodIn_r wsX40 [288, 289, 290] rfl (by decide +kernel))) (goodIn_r wsX30 [291, 292, 293, 294] rfl (by decide +kernel))) (goodIn_r wsX20 [303, 304, 305] rfl (by decide +kernel))) (goodIn_r wsX10 [295, 296, 297, 298, 299, 300, 301, 302] rfl (by decide +kernel))) (goodIn_r wsX00 [306, 307, 308, 309, 310, 311, 312, 313, 314] rfl (by decide +kernel)))
set_option maxRecDepth 20000 in
theorem gL_acts_X4_pass : GoodIn wsL_acts (wsV RL 106 RX4 yX4_pass wsX4_pass) := goodIn_app (goodIn_of _ (by decide +kernel)) ggL_acts_X4_pass
set_option maxRecDepth 20000 in
theorem ggL_acts_L_those : GoodIn wsL_acts wsL_those := goodIn_r _ [140, 141, 142, 4, 143, 144, 145, 146, 147, 148] (by decide +kernel) (by decide +kernel)
set_option maxRecDepth 20000 in
theorem gL_acts_L_those : GoodIn wsL_acts (va_wsS RL 38 yL_those wsL_those) := goodIn_app (goodIn_of _ (by decide +kernel)) ggL_acts_L_those
theorem dL_acts_0 : decode cL_acts 0 = .ok (.iload 6, 2) := by decide +kernel
theorem dL_acts_2 : decode cL_acts 2 = .ok (.iconst 5, 1) := by decide +kernel
theorem dL_acts_3 : decode cL_acts 3 = .ok (.ishr, 1) := by decide +kernel
theorem dL_acts_4 : decode cL_acts 4 = .ok (.ldc 91, 2) := by decide +kernel
theorem dL_acts_6 : decode cL_acts 6 = .ok (.invokestatic 92, 3) := by decide +kernel
theorem dL_acts_9 : decode cL_acts 9 = .ok (.istore 7, 2) := by decide +kernel
theorem dL_acts_11 : decode cL_acts 11 = .ok (.iload 6, 2) := by decide +kernel
theorem dL_acts_13 : decode cL_acts 13 = .ok (.bipush 24, 2) := by decide +kernel
theorem dL_acts_15 : decode cL_acts 15 = .ok (.invokestatic 92, 3) := by decide +kernel
theorem dL_acts_18 : decode cL_acts 18 = .ok (.istore 8, 2) := by decide +kernel
theorem dL_acts_20 : decode cL_acts 20 = .ok (.iload 8, 2) := by decide +kernel
theorem dL_acts_22 : decode cL_acts 22 = .ok (.bipush 6, 2) := by decide +kernel
theorem dL_acts_24 : decode cL_acts 24 = .ok (.if_icmp .ge 19, 3) := by decide +kernel
theorem dL_acts_27 : decode cL_acts 27 = .ok (.aload_n 0, 1) := by decide +kernel
theorem dL_acts_28 : decode cL_acts 28 = .ok (.aload_n 1, 1) := by decide +kernel
theorem dL_acts_29 : decode cL_acts 29 = .ok (.aload_n 2, 1) := by decide +kernel
theorem dL_acts_30 : decode cL_acts 30 = .ok (.aload_n 3, 1) := by decide +kernel
theorem dL_acts_31 : decode cL_acts 31 = .ok (.aload 4, 2) := by decide +kernel
theorem dL_acts_33 : decode cL_acts 33 = .ok (.aload 5, 2) := by decide +kernel
theorem dL_acts_35 : decode cL_acts 35 = .ok (.iload 7, 2) := by decide +kernel
theorem dL_acts_37 : decode cL_acts 37 = .ok (.iload 8, 2) := by decide +kernel
theorem dL_acts_39 : decode cL_acts 39 = .ok (.invokestatic 95, 3) := by decide +kernel
theorem dL_acts_42 : decode cL_acts 42 = .ok (.ireturn, 1) := by decide +kernel
theorem dL_acts_43 : decode cL_acts 43 = .ok (.iload 8, 2) := by decide +kernel
theorem dL_acts_45 : decode cL_acts 45 = .ok (.bipush 15, 2) := by decide +kernel
theorem dL_acts_47 : decode cL_acts 47 = .ok (.if_icmp .ge 143, 3) := by decide +kernel
theorem dL_acts_50 : decode cL_acts 50 = .ok (.iload 7, 2) := by decide +kernel
theorem dL_acts_52 : decode cL_acts 52 = .ok (.bipush 16, 2) := by decide +kernel
theorem dL_acts_54 : decode cL_acts 54 = .ok (.irem, 1) := by decide +kernel
theorem dL_acts_55 : decode cL_acts 55 = .ok (.istore 9, 2) := by decide +kernel
theorem dL_acts_57 : decode cL_acts 57 = .ok (.iload 7, 2) := by decide +kernel
theorem dL_acts_59 : decode cL_acts 59 = .ok (.bipush 16, 2) := by decide +kernel
theorem dL_acts_61 : decode cL_acts 61 = .ok (.idiv, 1) := by decide +kernel
theorem dL_acts_62 : decode cL_acts 62 = .ok (.bipush 16, 2) := by decide +kernel
theorem dL_acts_64 : decode cL_acts 64 = .ok (.irem, 1) := by decide +kernel
theorem dL_acts_65 : decode cL_acts 65 = .ok (.istore 10, 2) := by decide +kernel
theorem dL_acts_67 : decode cL_acts 67 = .ok (.iload 9, 2) := by decide +kernel
theorem dL_acts_69 : decode cL_acts 69 = .ok (.iload 10, 2) := by decide +kernel
theorem dL_acts_71 : decode cL_acts 71 = .ok (.if_icmp .ne 21, 3) := by decide +kernel
theorem dL_acts_74 : decode cL_acts 74 = .ok (.aload_n 0, 1) := by decide +kernel
theorem dL_acts_75 : decode cL_acts 75 = .ok (.iload 9, 2) := by decide +kernel
theorem dL_acts_77 : decode cL_acts 77 = .ok (.iload 10, 2) := by decide +kernel
theorem dL_acts_79 : decode cL_acts 79 = .ok (.invokevirtual 99, 3) := by decide +kernel
theorem dL_acts_82 : decode cL_acts 82 = .ok (.iconst (-1), 1) := by decide +kernel
theorem dL_acts_83 : decode cL_acts 83 = .ok (.if_icmp .ne 7, 3) := by decide +kernel
theorem dL_acts_86 : decode cL_acts 86 = .ok (.iconst 1, 1) := by decide +kernel
theorem dL_acts_87 : decode cL_acts 87 = .ok (.goto 4, 3) := by decide +kernel
theorem dL_acts_90 : decode cL_acts 90 = .ok (.iconst 0, 1) := by decide +kernel
theorem dL_acts_91 : decode cL_acts 91 = .ok (.ireturn, 1) := by decide +kernel
theorem dL_acts_92 : decode cL_acts 92 = .ok (.aload_n 1, 1) := by decide +kernel
theorem dL_acts_93 : decode cL_acts 93 = .ok (.iconst 2, 1) := by decide +kernel
theorem dL_acts_94 : decode cL_acts 94 = .ok (.iaload, 1) := by decide +kernel
theorem dL_acts_95 : decode cL_acts 95 = .ok (.bipush 40, 2) := by decide +kernel
theorem dL_acts_97 : decode cL_acts 97 = .ok (.if_icmp .ne 22, 3) := by decide +kernel
theorem dL_acts_100 : decode cL_acts 100 = .ok (.aload_n 0, 1) := by decide +kernel
theorem dL_acts_101 : decode cL_acts 101 = .ok (.iload 9, 2) := by decide +kernel
theorem dL_acts_103 : decode cL_acts 103 = .ok (.iload 10, 2) := by decide +kernel
theorem dL_acts_105 : decode cL_acts 105 = .ok (.invokevirtual 99, 3) := by decide +kernel
theorem dL_acts_108 : decode cL_acts 108 = .ok (.bipush (-3), 2) := by decide +kernel
theorem dL_acts_110 : decode cL_acts 110 = .ok (.if_icmp .ne 7, 3) := by decide +kernel
theorem dL_acts_113 : decode cL_acts 113 = .ok (.iconst 1, 1) := by decide +kernel
theorem dL_acts_114 : decode cL_acts 114 = .ok (.goto 4, 3) := by decide +kernel
theorem dL_acts_117 : decode cL_acts 117 = .ok (.iconst 0, 1) := by decide +kernel
theorem dL_acts_118 : decode cL_acts 118 = .ok (.ireturn, 1) := by decide +kernel
theorem dL_acts_119 : decode cL_acts 119 = .ok (.aload 4, 2) := by decide +kernel
theorem dL_acts_121 : decode cL_acts 121 = .ok (.aload_n 1, 1) := by decide +kernel
theorem dL_acts_122 : decode cL_acts 122 = .ok (.iconst 2, 1) := by decide +kernel
theorem dL_acts_123 : decode cL_acts 123 = .ok (.iaload, 1) := by decide +kernel
theorem dL_acts_124 : decode cL_acts 124 = .ok (.iload 9, 2) := by decide +kernel
theorem dL_acts_126 : decode cL_acts 126 = .ok (.iload 10, 2) := by decide +kernel
theorem dL_acts_128 : decode cL_acts 128 = .ok (.iconst 4, 1) := by decide +kernel
theorem dL_acts_129 : decode cL_acts 129 = .ok (.ishl, 1) := by decide +kernel
theorem dL_acts_130 : decode cL_acts 130 = .ok (.ior, 1) := by decide +kernel
theorem dL_acts_131 : decode cL_acts 131 = .ok (.i2l, 1) := by decide +kernel
theorem dL_acts_132 : decode cL_acts 132 = .ok (.aload_n 1, 1) := by decide +kernel
theorem dL_acts_133 : decode cL_acts 133 = .ok (.iconst 0, 1) := by decide +kernel
theorem dL_acts_134 : decode cL_acts 134 = .ok (.iaload, 1) := by decide +kernel
theorem dL_acts_135 : decode cL_acts 135 = .ok (.i2l, 1) := by decide +kernel
theorem dL_acts_136 : decode cL_acts 136 = .ok (.bipush 24, 2) := by decide +kernel
theorem dL_acts_138 : decode cL_acts 138 = .ok (.lshl, 1) := by decide +kernel
theorem dL_acts_139 : decode cL_acts 139 = .ok (.lor, 1) := by decide +kernel
theorem dL_acts_140 : decode cL_acts 140 = .ok (.lastore, 1) := by decide +kernel
theorem dL_acts_141 : decode cL_acts 141 = .ok (.aload 5, 2) := by decide +kernel
theorem dL_acts_143 : decode cL_acts 143 = .ok (.aload_n 1, 1) := by decide +kernel
theorem dL_acts_144 : decode cL_acts 144 = .ok (.iconst 2, 1) := by decide +kernel
theorem dL_acts_145 : decode cL_acts 145 = .ok (.iaload, 1) := by decide +kernel
theorem dL_acts_146 : decode cL_acts 146 = .ok (.lconst 0, 1) := by decide +kernel
theorem dL_acts_147 : decode cL_acts 147 = .ok (.lastore, 1) := by decide +kernel
theorem dL_acts_148 : decode cL_acts 148 = .ok (.aload_n 1, 1) := by decide +kernel
theorem dL_acts_149 : decode cL_acts 149 = .ok (.iconst 2, 1) := by decide +kernel
theorem dL_acts_150 : decode cL_acts 150 = .ok (.dup2, 1) := by decide +kernel
theorem dL_acts_151 : decode cL_acts 151 = .ok (.iaload, 1) := by decide +kernel
theorem dL_acts_152 : decode cL_acts 152 = .ok (.iconst 1, 1) := by decide +kernel
theorem dL_acts_153 : decode cL_acts 153 = .ok (.iadd, 1) := by decide +kernel
theorem dL_acts_154 : decode cL_acts 154 = .ok (.iastore, 1) := by decide +kernel
theorem dL_acts_155 : decode cL_acts 155 = .ok (.aload_n 1, 1) := by decide +kernel
theorem dL_acts_156 : decode cL_acts 156 = .ok (.aload_n 2, 1) := by decide +kernel
theorem dL_acts_157 : decode cL_acts 157 = .ok (.aload_n 3, 1) := by decide +kernel
theorem dL_acts_158 : decode cL_acts 158 = .ok (.aload 4, 2) := by decide +kernel
theorem dL_acts_160 : decode cL_acts 160 = .ok (.aload_n 1, 1) := by decide +kernel
theorem dL_acts_161 : decode cL_acts 161 = .ok (.iconst 2, 1) := by decide +kernel
theorem dL_acts_162 : decode cL_acts 162 = .ok (.iaload, 1) := by decide +kernel
theorem dL_acts_163 : decode cL_acts 163 = .ok (.iconst 1, 1) := by decide +kernel
theorem dL_acts_164 : decode cL_acts 164 = .ok (.isub, 1) := by decide +kernel
theorem dL_acts_165 : decode cL_acts 165 = .ok (.invokestatic 57, 3) := by decide +kernel
theorem dL_acts_168 : decode cL_acts 168 = .ok (.aload_n 0, 1) := by decide +kernel
theorem dL_acts_169 : decode cL_acts 169 = .ok (.iload 9, 2) := by decide +kernel
theorem dL_acts_171 : decode cL_acts 171 = .ok (.iload 10, 2) := by decide +kernel
theorem dL_acts_173 : decode cL_acts 173 = .ok (.invokevirtual 99, 3) := by decide +kernel
theorem dL_acts_176 : decode cL_acts 176 = .ok (.aload_n 1, 1) := by decide +kernel
theorem dL_acts_177 : decode cL_acts 177 = .ok (.iconst 2, 1) := by decide +kernel
theorem dL_acts_178 : decode cL_acts 178 = .ok (.iaload, 1) := by decide +kernel
theorem dL_acts_179 : decode cL_acts 179 = .ok (.iconst 1, 1) := by decide +kernel
theorem dL_acts_180 : decode cL_acts 180 = .ok (.isub, 1) := by decide +kernel
theorem dL_acts_181 : decode cL_acts 181 = .ok (.if_icmp .ne 7, 3) := by decide +kernel
theorem dL_acts_184 : decode cL_acts 184 = .ok (.iconst 1, 1) := by decide +kernel
theorem dL_acts_185 : decode cL_acts 185 = .ok (.goto 4, 3) := by decide +kernel
theorem dL_acts_188 : decode cL_acts 188 = .ok (.iconst 0, 1) := by decide +kernel
theorem dL_acts_189 : decode cL_acts 189 = .ok (.ireturn, 1) := by decide +kernel
theorem dL_acts_190 : decode cL_acts 190 = .ok (.iconst 1, 1) := by decide +kernel
theorem dL_acts_191 : decode cL_acts 191 = .ok (.iload 7, 2) := by decide +kernel
theorem dL_acts_193 : decode cL_acts 193 = .ok (.iload 7, 2) := by decide +kernel
theorem dL_acts_195 : decode cL_acts 195 = .ok (.bipush 7, 2) := by decide +kernel
theorem dL_acts_197 : decode cL_acts 197 = .ok (.irem, 1) := by decide +kernel
theorem dL_acts_198 : decode cL_acts 198 = .ok (.ifCond .ne 8, 3) := by decide +kernel
theorem dL_acts_201 : decode cL_acts 201 = .ok (.bipush 100, 2) := by decide +kernel
theorem dL_acts_203 : decode cL_acts 203 = .ok (.goto 5, 3) := by decide +kernel
theorem dL_acts_206 : decode cL_acts 206 = .ok (.bipush 9, 2) := by decide +kernel
theorem dL_acts_208 : decode cL_acts 208 = .ok (.irem, 1) := by decide +kernel
theorem dL_acts_209 : decode cL_acts 209 = .ok (.iadd, 1) := by decide +kernel
theorem dL_acts_210 : decode cL_acts 210 = .ok (.istore 9, 2) := by decide +kernel
theorem dL_acts_212 : decode cL_acts 212 = .ok (.iconst 0, 1) := by decide +kernel
theorem dL_acts_213 : decode cL_acts 213 = .ok (.istore 10, 2) := by decide +kernel
theorem dL_acts_215 : decode cL_acts 215 = .ok (.iload 10, 2) := by decide +kernel
theorem dL_acts_217 : decode cL_acts 217 = .ok (.iload 9, 2) := by decide +kernel
theorem dL_acts_219 : decode cL_acts 219 = .ok (.if_icmp .ge 19, 3) := by decide +kernel
theorem dL_acts_222 : decode cL_acts 222 = .ok (.aload_n 1, 1) := by decide +kernel
theorem dL_acts_223 : decode cL_acts 223 = .ok (.aload_n 2, 1) := by decide +kernel
theorem dL_acts_224 : decode cL_acts 224 = .ok (.aload_n 3, 1) := by decide +kernel
theorem dL_acts_225 : decode cL_acts 225 = .ok (.aload 4, 2) := by decide +kernel
theorem dL_acts_227 : decode cL_acts 227 = .ok (.aload 5, 2) := by decide +kernel
theorem dL_acts_229 : decode cL_acts 229 = .ok (.invokestatic 102, 3) := by decide +kernel
theorem dL_acts_232 : decode cL_acts 232 = .ok (.iinc 10 1, 3) := by decide +kernel
theorem dL_acts_235 : decode cL_acts 235 = .ok (.goto (-20), 3) := by decide +kernel
theorem dL_acts_238 : decode cL_acts 238 = .ok (.aload_n 0, 1) := by decide +kernel
theorem dL_acts_239 : decode cL_acts 239 = .ok (.iload 9, 2) := by decide +kernel
theorem dL_acts_241 : decode cL_acts 241 = .ok (.invokevirtual 106, 3) := by decide +kernel
theorem dL_acts_244 : decode cL_acts 244 = .ok (.aload_n 1, 1) := by decide +kernel
theorem dL_acts_245 : decode cL_acts 245 = .ok (.aload 4, 2) := by decide +kernel
theorem dL_acts_247 : decode cL_acts 247 = .ok (.iconst (-1), 1) := by decide +kernel
theorem dL_acts_248 : decode cL_acts 248 = .ok (.iconst 3, 1) := by decide +kernel
theorem dL_acts_249 : decode cL_acts 249 = .ok (.invokestatic 38, 3) := by decide +kernel
theorem dL_acts_252 : decode cL_acts 252 = .ok (.if_icmp .ne 7, 3) := by decide +kernel
theorem dL_acts_255 : decode cL_acts 255 = .ok (.iconst 1, 1) := by decide +kernel
theorem dL_acts_256 : decode cL_acts 256 = .ok (.goto 4, 3) := by decide +kernel
theorem dL_acts_259 : decode cL_acts 259 = .ok (.iconst 0, 1) := by decide +kernel
theorem dL_acts_260 : decode cL_acts 260 = .ok (.ireturn, 1) := by decide +kernel
set_option maxRecDepth 100000 in
theorem ggL_isSo_X4_car : GoodIn wsL_isSo wsX4_car := goodIn_app (a := [.code yX4_car cX4_car 3 (some .int)]) (goodIn_r [.code yX4_car cX4_car 3 (some .int)] [7] rfl (by decide +kernel)) (goodIn_app (goodIn_app (goodIn_app (goodIn_app (goodIn_app (goodIn_r wsX4_car_r1 [8, 9, 10, 11, 12, 13, 14, 15, 16, 17, 18, 19, 20, 21, 22, 23, 24, 25, 26, 27, 28, 29, 30, 31] rfl (by decide +kernel)) (goodIn_app (goodIn_r wsX4_car_r2 [32, 33, 34, 35, 36, 37, 38, 39, 40, 41, 42, 43, 44, 45, 46, 47, 48, 49, 50, 51, 52, 53, 54, 55] rfl (by decide +kernel)) (goodIn_r wsX4_car_r3 [56, 57, 58, 59, 60, 61, 62, 63, 64, 65, 66, 67, 68, 69, 70] rfl (by decide +kernel)))) (goodIn_r wsX40 [165, 166, 167] rfl (by decide +kernel))) (goodIn_r wsX30 [168, 169, 170, 171] rfl (by decide +kernel))) (goodIn_r wsX10 [172, 173, 174, 175, 176, 177, 178, 179] rfl (by decide +kernel))) (goodIn_r wsX00 [180, 181, 182, 183, 184, 185, 186, 187, 188] rfl (by decide +kernel)))
set_option maxRecDepth 20000 in
theorem gL_isSo_X4_car : GoodIn wsL_isSo (wsV RL 109 RX4 yX4_car wsX4_car) := goodIn_app (goodIn_of _ (by decide +kernel)) ggL_isSo_X4_car
set_option maxRecDepth 20000 in
theorem ggL_isSo_L_those : GoodIn wsL_isSo wsL_those := goodIn_r _ [74, 75, 76, 73, 77, 78, 79, 80, 81, 82] (by decide +kernel) (by decide +kernel)
set_option maxRecDepth 20000 in
theorem gL_isSo_L_those : GoodIn wsL_isSo (va_wsS RL 38 yL_those wsL_those) := goodIn_app (goodIn_of _ (by decide +kernel)) ggL_isSo_L_those
set_option maxRecDepth 20000 in
theorem ggL_isSo_L_stops : GoodIn wsL_isSo wsL_stops := goodIn_r _ [85, 79, 80, 73, 81, 82, 75, 76, 77, 78, 86, 87, 88, 89, 90, 91, 92] (by decide +kernel) (by decide +kernel)
set_option maxRecDepth 20000 in
theorem gL_isSo_L_stops : GoodIn wsL_isSo (va_wsS RL 34 yL_stops wsL_stops) := goodIn_app (goodIn_of _ (by decide +kernel)) ggL_isSo_L_stops
set_option maxRecDepth 20000 in
theorem ggL_isSo_L_aim : GoodIn wsL_isSo wsL_aim := goodIn_r _ [95, 75, 76, 73, 77, 78, 79, 80, 81, 82, 86, 87, 88, 89, 90, 91, 92] (by decide +kernel) (by decide +kernel)
set_option maxRecDepth 20000 in
theorem gL_isSo_L_aim : GoodIn wsL_isSo (va_wsS RL 53 yL_aim wsL_aim) := goodIn_app (goodIn_of _ (by decide +kernel)) ggL_isSo_L_aim
set_option maxRecDepth 20000 in
theorem ggL_isSo_X4_caller : GoodIn wsL_isSo wsX4_caller := goodIn_r _ [99, 8, 12, 100, 101, 102, 103, 104, 105, 106, 107, 108, 109, 110, 23, 111, 25, 165, 166, 167, 168, 169, 170, 171, 180, 181, 182, 183, 184, 185, 186, 187, 188] (by decide +kernel) (by decide +kernel)
set_option maxRecDepth 20000 in
theorem gL_isSo_X4_caller : GoodIn wsL_isSo (wsV RL 114 RX4 yX4_caller wsX4_caller) := goodIn_app (goodIn_of _ (by decide +kernel)) ggL_isSo_X4_caller
set_option maxRecDepth 20000 in
theorem ggL_isSo_L_floor : GoodIn wsL_isSo wsL_floor := goodIn_r _ [92, 89] (by decide +kernel) (by decide +kernel)
set_option maxRecDepth 20000 in
theorem gL_isSo_L_floor : GoodIn wsL_isSo (va_wsS RL 27 yL_floor wsL_floor) := goodIn_app (goodIn_of _ (by decide +kernel)) ggL_isSo_L_floor
set_option maxRecDepth 20000 in
theorem ggL_isSo_L_goal : GoodIn wsL_isSo wsL_goal := goodIn_r _ [88, 89] (by decide +kernel) (by decide +kernel)
set_option maxRecDepth 20000 in
theorem gL_isSo_L_goal : GoodIn wsL_isSo (va_wsS RL 24 yL_goal wsL_goal) := goodIn_app (goodIn_of _ (by decide +kernel)) ggL_isSo_L_goal
set_option maxRecDepth 20000 in
theorem ggL_isSo_L_is : GoodIn wsL_isSo wsL_is := goodIn_r _ [77, 78] (by decide +kernel) (by decide +kernel)
set_option maxRecDepth 20000 in
theorem gL_isSo_L_is : GoodIn wsL_isSo (va_wsS RL 15 yL_is wsL_is) := goodIn_app (goodIn_of _ (by decide +kernel)) ggL_isSo_L_is
set_option maxRecDepth 20000 in
theorem ggL_isSo_L_by : GoodIn wsL_isSo wsL_by := goodIn_r _ [81, 82] (by decide +kernel) (by decide +kernel)
set_option maxRecDepth 20000 in
theorem gL_isSo_L_by : GoodIn wsL_isSo (va_wsS RL 21 yL_by wsL_by) := goodIn_app (goodIn_of _ (by decide +kernel)) ggL_isSo_L_by
set_option maxRecDepth 100000 in
theorem ggL_isSo_X4_group : GoodIn wsL_isSo wsX4_group := goodIn_app (a := [.code yX4_group cX4_group 4 (some .int)]) (goodIn_r [.code yX4_group cX4_group 4 (some .int)] [115] rfl (by decide +kernel)) (goodIn_app (goodIn_app (goodIn_app (goodIn_app (goodIn_r wsX4_group_r1 [8, 12, 100, 101, 116, 117, 118, 23, 119, 25, 120, 121, 122, 123, 124, 125, 126, 127, 32, 33, 128, 129, 130, 131] rfl (by decide +kernel)) (goodIn_r wsX4_group_r2 [26, 108, 109, 110, 111, 132, 133, 134, 135] rfl (by decide +kernel))) (goodIn_r wsX40 [165, 166, 167] rfl (by decide +kernel))) (goodIn_r wsX30 [168, 169, 170, 171] rfl (by decide +kernel))) (goodIn_r wsX00 [180, 181, 182, 183, 184, 185, 186, 187, 188] rfl (by decide +kernel)))
set_option maxRecDepth 20000 in
theorem gL_isSo_X4_group : GoodIn wsL_isSo (wsV RL 119 RX4 yX4_group wsX4_group) := goodIn_app (goodIn_of _ (by decide +kernel)) ggL_isSo_X4_group
set_option maxRecDepth 100000 in
theorem ggL_isSo_X4_count : GoodIn wsL_isSo wsX4_count := goodIn_app (a := [.code yX4_count cX4_count 2 (some .int)]) (goodIn_r [.code yX4_count cX4_count 2 (some .int)] [139] rfl (by decide +kernel)) (goodIn_app (goodIn_app (goodIn_app (goodIn_app (goodIn_app (goodIn_app (goodIn_r wsX4_count_r1 [8, 140, 9, 141, 12, 142, 143, 144, 145, 146, 67, 68, 63, 69, 70, 147, 148, 149, 23, 150, 25, 26, 151, 152] rfl (by decide +kernel)) (goodIn_app (goodIn_r wsX4_count_r2 [153, 154, 120, 121, 122, 123, 124, 125, 126, 127, 32, 33, 128, 129, 130, 131, 155, 156, 157, 17, 158, 19, 159, 160] rfl (by decide +kernel)) (goodIn_r wsX4_count_r3 [161, 162, 163, 164] rfl (by decide +kernel)))) (goodIn_r wsX40 [165, 166, 167] rfl (by decide +kernel))) (goodIn_r wsX30 [168, 169, 170, 171] rfl (by decide +kernel))) (goodIn_r wsX10 [172, 173, 174, 175, 176, 177, 178, 179] rfl (by decide +kernel))) (goodIn_r wsX00 [180, 181, 182, 183, 184, 185, 186, 187, 188] rfl (by decide +kernel))) (goodIn_r wsX20 [189, 190, 191] rfl (by decide +kernel)))
set_option maxRecDepth 20000 in
theorem gL_isSo_X4_count : GoodIn wsL_isSo (wsV RL 122 RX4 yX4_count wsX4_count) := goodIn_app (goodIn_of _ (by decide +kernel)) ggL_isSo_X4_count
theorem dL_isSo_0 : decode cL_isSo 0 = .ok (.iconst 1, 1) := by decide +kernel
theorem dL_isSo_1 : decode cL_isSo 1 = .ok (.istore 6, 2) := by decide +kernel
theorem dL_isSo_3 : decode cL_isSo 3 = .ok (.iconst 0, 1) := by decide +kernel
theorem dL_isSo_4 : decode cL_isSo 4 = .ok (.istore 7, 2) := by decide +kernel
