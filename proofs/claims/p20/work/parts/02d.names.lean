set_option maxRecDepth 20000 in
theorem ggX4_init_X3_init : GoodIn wsX4_init wsX3_init := goodIn_r _ [15, 16, 2, 3, 17, 18, 19, 20, 21, 22, 23, 24, 25, 26, 27, 28, 29, 30, 31, 32, 33, 34, 35, 36, 37, 38, 39, 40, 41, 42, 43, 44, 45, 46, 54, 55, 56, 57, 64, 65, 66, 67, 68, 69, 70, 71, 72, 73, 74, 75, 76, 77, 78, 79, 80] (by decide +kernel) (by decide +kernel)
set_option maxRecDepth 20000 in
theorem gX4_init_X3_init : GoodIn wsX4_init (wsX3_init) := ggX4_init_X3_init
set_option maxRecDepth 20000 in
theorem ggX4_init_X2_init : GoodIn wsX4_init wsX2_init := goodIn_r _ [49, 50, 2, 3, 51, 52, 5, 6, 53, 14, 15, 16, 17, 18, 19, 20, 21, 22, 23, 24, 25, 26, 27, 28, 29, 30, 31, 32, 33, 34, 35, 36, 37, 38, 39, 40, 41, 42, 43, 44, 45, 46, 61, 62, 63, 54, 55, 56, 57, 64, 65, 66, 67, 68, 69, 70, 71, 72, 73, 74, 75, 76, 77, 78, 79, 80] (by decide +kernel) (by decide +kernel)
set_option maxRecDepth 20000 in
theorem gX4_init_X2_init : GoodIn wsX4_init (wsX2_init) := ggX4_init_X2_init
theorem dX4_init_0 : decode cX4_init 0 = .ok (.aload_n 0, 1) := by decide +kernel
theorem dX4_init_1 : decode cX4_init 1 = .ok (.invokespecial 1, 3) := by decide +kernel
theorem dX4_init_4 : decode cX4_init 4 = .ok (.aload_n 0, 1) := by decide +kernel
theorem dX4_init_5 : decode cX4_init 5 = .ok (.new 7, 3) := by decide +kernel
theorem dX4_init_8 : decode cX4_init 8 = .ok (.dup, 1) := by decide +kernel
theorem dX4_init_9 : decode cX4_init 9 = .ok (.invokespecial 9, 3) := by decide +kernel
theorem dX4_init_12 : decode cX4_init 12 = .ok (.putfield 10, 3) := by decide +kernel
theorem dX4_init_15 : decode cX4_init 15 = .ok (.aload_n 0, 1) := by decide +kernel
theorem dX4_init_16 : decode cX4_init 16 = .ok (.new 7, 3) := by decide +kernel
theorem dX4_init_19 : decode cX4_init 19 = .ok (.dup, 1) := by decide +kernel
theorem dX4_init_20 : decode cX4_init 20 = .ok (.invokespecial 9, 3) := by decide +kernel
theorem dX4_init_23 : decode cX4_init 23 = .ok (.putfield 16, 3) := by decide +kernel
theorem dX4_init_26 : decode cX4_init 26 = .ok (.aload_n 0, 1) := by decide +kernel
theorem dX4_init_27 : decode cX4_init 27 = .ok (.new 19, 3) := by decide +kernel
theorem dX4_init_30 : decode cX4_init 30 = .ok (.dup, 1) := by decide +kernel
theorem dX4_init_31 : decode cX4_init 31 = .ok (.invokespecial 21, 3) := by decide +kernel
theorem dX4_init_34 : decode cX4_init 34 = .ok (.putfield 22, 3) := by decide +kernel
theorem dX4_init_37 : decode cX4_init 37 = .ok (.return_, 1) := by decide +kernel
set_option maxRecDepth 20000 in
theorem ggX4_addCar_X4_isFloor : GoodIn wsX4_addCar wsX4_isFloor := goodIn_r _ [8] (by decide +kernel) (by decide +kernel)
set_option maxRecDepth 20000 in
theorem gX4_addCar_X4_isFloor : GoodIn wsX4_addCar (va_wsS RX4 26 yX4_isFloor wsX4_isFloor) := goodIn_app (goodIn_of _ (by decide +kernel)) ggX4_addCar_X4_isFloor
set_option maxRecDepth 20000 in
theorem ggX4_addCar_X2_keep : GoodIn wsX4_addCar wsX2_keep := goodIn_r _ [13, 14, 15, 16, 17, 18, 19, 20, 21, 22, 23, 24, 25, 26, 27, 28, 29, 30, 31, 32, 33, 34, 35, 36, 37, 38, 39, 40, 41, 42, 43, 44, 45, 46, 47, 48, 49, 50, 51, 52, 53, 54, 55, 56, 57, 58, 59, 60, 61, 62, 63, 64, 65, 66, 86, 87, 88, 74, 75, 76, 77, 78, 79, 80, 81, 82, 83, 84, 85, 89, 90, 91, 92, 93, 94, 95, 96, 97] (by decide +kernel) (by decide +kernel)
set_option maxRecDepth 20000 in
theorem gX4_addCar_X2_keep : GoodIn wsX4_addCar (wsV RX4 40 RX2 yX2_keep wsX2_keep) := goodIn_app (goodIn_of _ (by decide +kernel)) ggX4_addCar_X2_keep
set_option maxRecDepth 20000 in
theorem ggX4_addCar_X1_add : GoodIn wsX4_addCar wsX1_add := goodIn_r _ [70, 39, 41, 43, 44, 45, 46, 47, 78, 79, 80, 81, 82, 83, 84, 85] (by decide +kernel) (by decide +kernel)
set_option maxRecDepth 20000 in
theorem gX4_addCar_X1_add : GoodIn wsX4_addCar (wsV RX4 44 RX1 yX1_add wsX1_add) := goodIn_app (goodIn_of _ (by decide +kernel)) ggX4_addCar_X1_add
theorem dX4_addCar_0 : decode cX4_addCar 0 = .ok (.iload_n 1, 1) := by decide +kernel
theorem dX4_addCar_1 : decode cX4_addCar 1 = .ok (.invokestatic 26, 3) := by decide +kernel
theorem dX4_addCar_4 : decode cX4_addCar 4 = .ok (.ifCond .eq 15, 3) := by decide +kernel
theorem dX4_addCar_7 : decode cX4_addCar 7 = .ok (.iload_n 2, 1) := by decide +kernel
theorem dX4_addCar_8 : decode cX4_addCar 8 = .ok (.invokestatic 26, 3) := by decide +kernel
theorem dX4_addCar_11 : decode cX4_addCar 11 = .ok (.ifCond .eq 8, 3) := by decide +kernel
theorem dX4_addCar_14 : decode cX4_addCar 14 = .ok (.iload_n 2, 1) := by decide +kernel
theorem dX4_addCar_15 : decode cX4_addCar 15 = .ok (.iload_n 1, 1) := by decide +kernel
theorem dX4_addCar_16 : decode cX4_addCar 16 = .ok (.if_icmp .gt 5, 3) := by decide +kernel
theorem dX4_addCar_19 : decode cX4_addCar 19 = .ok (.iconst (-1), 1) := by decide +kernel
theorem dX4_addCar_20 : decode cX4_addCar 20 = .ok (.ireturn, 1) := by decide +kernel
theorem dX4_addCar_21 : decode cX4_addCar 21 = .ok (.iload_n 3, 1) := by decide +kernel
theorem dX4_addCar_22 : decode cX4_addCar 22 = .ok (.iconst 1, 1) := by decide +kernel
theorem dX4_addCar_23 : decode cX4_addCar 23 = .ok (.if_icmp .lt 9, 3) := by decide +kernel
theorem dX4_addCar_26 : decode cX4_addCar 26 = .ok (.iload_n 3, 1) := by decide +kernel
theorem dX4_addCar_27 : decode cX4_addCar 27 = .ok (.bipush 8, 2) := by decide +kernel
theorem dX4_addCar_29 : decode cX4_addCar 29 = .ok (.if_icmp .le 5, 3) := by decide +kernel
theorem dX4_addCar_32 : decode cX4_addCar 32 = .ok (.iconst (-1), 1) := by decide +kernel
theorem dX4_addCar_33 : decode cX4_addCar 33 = .ok (.ireturn, 1) := by decide +kernel
theorem dX4_addCar_34 : decode cX4_addCar 34 = .ok (.aload_n 0, 1) := by decide +kernel
theorem dX4_addCar_35 : decode cX4_addCar 35 = .ok (.getfield 10, 3) := by decide +kernel
theorem dX4_addCar_38 : decode cX4_addCar 38 = .ok (.getfield 30, 3) := by decide +kernel
theorem dX4_addCar_41 : decode cX4_addCar 41 = .ok (.getfield 34, 3) := by decide +kernel
theorem dX4_addCar_44 : decode cX4_addCar 44 = .ok (.iconst 5, 1) := by decide +kernel
theorem dX4_addCar_45 : decode cX4_addCar 45 = .ok (.if_icmp .lt 6, 3) := by decide +kernel
theorem dX4_addCar_48 : decode cX4_addCar 48 = .ok (.bipush (-3), 2) := by decide +kernel
theorem dX4_addCar_50 : decode cX4_addCar 50 = .ok (.ireturn, 1) := by decide +kernel
theorem dX4_addCar_51 : decode cX4_addCar 51 = .ok (.aload_n 0, 1) := by decide +kernel
theorem dX4_addCar_52 : decode cX4_addCar 52 = .ok (.getfield 22, 3) := by decide +kernel
theorem dX4_addCar_55 : decode cX4_addCar 55 = .ok (.aload_n 0, 1) := by decide +kernel
theorem dX4_addCar_56 : decode cX4_addCar 56 = .ok (.getfield 10, 3) := by decide +kernel
theorem dX4_addCar_59 : decode cX4_addCar 59 = .ok (.invokevirtual 40, 3) := by decide +kernel
theorem dX4_addCar_62 : decode cX4_addCar 62 = .ok (.aload_n 0, 1) := by decide +kernel
theorem dX4_addCar_63 : decode cX4_addCar 63 = .ok (.getfield 10, 3) := by decide +kernel
theorem dX4_addCar_66 : decode cX4_addCar 66 = .ok (.getfield 30, 3) := by decide +kernel
theorem dX4_addCar_69 : decode cX4_addCar 69 = .ok (.iload_n 1, 1) := by decide +kernel
theorem dX4_addCar_70 : decode cX4_addCar 70 = .ok (.iload_n 2, 1) := by decide +kernel
theorem dX4_addCar_71 : decode cX4_addCar 71 = .ok (.iload_n 3, 1) := by decide +kernel
theorem dX4_addCar_72 : decode cX4_addCar 72 = .ok (.invokevirtual 44, 3) := by decide +kernel
theorem dX4_addCar_75 : decode cX4_addCar 75 = .ok (.ireturn, 1) := by decide +kernel
set_option maxRecDepth 20000 in
theorem ggX4_setAwake_X2_keep : GoodIn wsX4_setAwake wsX2_keep := goodIn_r _ [8, 9, 10, 11, 12, 13, 14, 15, 16, 17, 18, 19, 20, 21, 22, 23, 24, 25, 26, 27, 28, 29, 30, 31, 32, 33, 34, 35, 36, 37, 38, 39, 40, 41, 42, 43, 44, 45, 46, 47, 48, 49, 50, 51, 52, 53, 54, 55, 56, 57, 58, 59, 60, 61, 69, 70, 71, 65, 66, 67, 68, 72, 73, 74, 75, 76, 77, 78, 79, 80, 81, 82, 83, 84, 85, 86, 87, 88] (by decide +kernel) (by decide +kernel)
set_option maxRecDepth 20000 in
theorem gX4_setAwake_X2_keep : GoodIn wsX4_setAwake (wsV RX4 40 RX2 yX2_keep wsX2_keep) := goodIn_app (goodIn_of _ (by decide +kernel)) ggX4_setAwake_X2_keep
theorem dX4_setAwake_0 : decode cX4_setAwake 0 = .ok (.iload_n 1, 1) := by decide +kernel
theorem dX4_setAwake_1 : decode cX4_setAwake 1 = .ok (.ifCond .lt 19, 3) := by decide +kernel
theorem dX4_setAwake_4 : decode cX4_setAwake 4 = .ok (.iload_n 1, 1) := by decide +kernel
theorem dX4_setAwake_5 : decode cX4_setAwake 5 = .ok (.bipush 24, 2) := by decide +kernel
theorem dX4_setAwake_7 : decode cX4_setAwake 7 = .ok (.if_icmp .ge 13, 3) := by decide +kernel
theorem dX4_setAwake_10 : decode cX4_setAwake 10 = .ok (.iload_n 2, 1) := by decide +kernel
theorem dX4_setAwake_11 : decode cX4_setAwake 11 = .ok (.iconst 1, 1) := by decide +kernel
theorem dX4_setAwake_12 : decode cX4_setAwake 12 = .ok (.if_icmp .lt 8, 3) := by decide +kernel
theorem dX4_setAwake_15 : decode cX4_setAwake 15 = .ok (.iload_n 2, 1) := by decide +kernel
theorem dX4_setAwake_16 : decode cX4_setAwake 16 = .ok (.iconst 5, 1) := by decide +kernel
theorem dX4_setAwake_17 : decode cX4_setAwake 17 = .ok (.if_icmp .le 5, 3) := by decide +kernel
theorem dX4_setAwake_20 : decode cX4_setAwake 20 = .ok (.iconst (-1), 1) := by decide +kernel
theorem dX4_setAwake_21 : decode cX4_setAwake 21 = .ok (.ireturn, 1) := by decide +kernel
theorem dX4_setAwake_22 : decode cX4_setAwake 22 = .ok (.aload_n 0, 1) := by decide +kernel
theorem dX4_setAwake_23 : decode cX4_setAwake 23 = .ok (.getfield 22, 3) := by decide +kernel
theorem dX4_setAwake_26 : decode cX4_setAwake 26 = .ok (.aload_n 0, 1) := by decide +kernel
theorem dX4_setAwake_27 : decode cX4_setAwake 27 = .ok (.getfield 10, 3) := by decide +kernel
theorem dX4_setAwake_30 : decode cX4_setAwake 30 = .ok (.invokevirtual 40, 3) := by decide +kernel
theorem dX4_setAwake_33 : decode cX4_setAwake 33 = .ok (.aload_n 0, 1) := by decide +kernel
theorem dX4_setAwake_34 : decode cX4_setAwake 34 = .ok (.getfield 10, 3) := by decide +kernel
theorem dX4_setAwake_37 : decode cX4_setAwake 37 = .ok (.getfield 48, 3) := by decide +kernel
theorem dX4_setAwake_40 : decode cX4_setAwake 40 = .ok (.iload_n 1, 1) := by decide +kernel
theorem dX4_setAwake_41 : decode cX4_setAwake 41 = .ok (.iaload, 1) := by decide +kernel
theorem dX4_setAwake_42 : decode cX4_setAwake 42 = .ok (.istore_n 3, 1) := by decide +kernel
theorem dX4_setAwake_43 : decode cX4_setAwake 43 = .ok (.aload_n 0, 1) := by decide +kernel
theorem dX4_setAwake_44 : decode cX4_setAwake 44 = .ok (.getfield 10, 3) := by decide +kernel
theorem dX4_setAwake_47 : decode cX4_setAwake 47 = .ok (.getfield 48, 3) := by decide +kernel
theorem dX4_setAwake_50 : decode cX4_setAwake 50 = .ok (.iload_n 1, 1) := by decide +kernel
theorem dX4_setAwake_51 : decode cX4_setAwake 51 = .ok (.iload_n 2, 1) := by decide +kernel
theorem dX4_setAwake_52 : decode cX4_setAwake 52 = .ok (.iastore, 1) := by decide +kernel
theorem dX4_setAwake_53 : decode cX4_setAwake 53 = .ok (.iload_n 3, 1) := by decide +kernel
theorem dX4_setAwake_54 : decode cX4_setAwake 54 = .ok (.ireturn, 1) := by decide +kernel
set_option maxRecDepth 20000 in
theorem ggX4_hold_X1_has : GoodIn wsX4_hold wsX1_has := goodIn_r _ [10, 11, 83, 84, 85, 86, 87, 88, 89, 90] (by decide +kernel) (by decide +kernel)
set_option maxRecDepth 20000 in
theorem gX4_hold_X1_has : GoodIn wsX4_hold (wsV RX4 52 RX1 yX1_has wsX1_has) := goodIn_app (goodIn_of _ (by decide +kernel)) ggX4_hold_X1_has
set_option maxRecDepth 20000 in
theorem ggX4_hold_X2_keep : GoodIn wsX4_hold wsX2_keep := goodIn_r _ [16, 17, 18, 19, 20, 21, 22, 23, 24, 25, 26, 27, 28, 29, 30, 31, 32, 33, 34, 35, 36, 37, 38, 39, 9, 40, 11, 41, 42, 43, 44, 45, 46, 47, 48, 49, 50, 51, 52, 53, 54, 55, 56, 57, 58, 59, 60, 61, 62, 63, 64, 65, 66, 67, 91, 92, 93, 79, 80, 81, 82, 83, 84, 85, 86, 87, 88, 89, 90, 94, 95, 96, 97, 98, 99, 100, 101, 102] (by decide +kernel) (by decide +kernel)
set_option maxRecDepth 20000 in
theorem gX4_hold_X2_keep : GoodIn wsX4_hold (wsV RX4 40 RX2 yX2_keep wsX2_keep) := goodIn_app (goodIn_of _ (by decide +kernel)) ggX4_hold_X2_keep
set_option maxRecDepth 20000 in
theorem ggX4_hold_X0_numberWith : GoodIn wsX4_hold wsX0_numberWith := goodIn_r _ [71, 72, 73, 74, 52, 75, 54, 58, 59, 94, 95, 96, 97, 98, 99, 100, 101, 102] (by decide +kernel) (by decide +kernel)
set_option maxRecDepth 20000 in
theorem gX4_hold_X0_numberWith : GoodIn wsX4_hold (wsV RX4 62 RX0 yX0_numberWith wsX0_numberWith) := goodIn_app (goodIn_of _ (by decide +kernel)) ggX4_hold_X0_numberWith
theorem dX4_hold_0 : decode cX4_hold 0 = .ok (.aload_n 0, 1) := by decide +kernel
theorem dX4_hold_1 : decode cX4_hold 1 = .ok (.getfield 10, 3) := by decide +kernel
theorem dX4_hold_4 : decode cX4_hold 4 = .ok (.getfield 30, 3) := by decide +kernel
theorem dX4_hold_7 : decode cX4_hold 7 = .ok (.iload_n 1, 1) := by decide +kernel
theorem dX4_hold_8 : decode cX4_hold 8 = .ok (.invokevirtual 52, 3) := by decide +kernel
theorem dX4_hold_11 : decode cX4_hold 11 = .ok (.ifCond .eq 12, 3) := by decide +kernel
theorem dX4_hold_14 : decode cX4_hold 14 = .ok (.iload_n 2, 1) := by decide +kernel
theorem dX4_hold_15 : decode cX4_hold 15 = .ok (.ifCond .lt 8, 3) := by decide +kernel
theorem dX4_hold_18 : decode cX4_hold 18 = .ok (.iload_n 2, 1) := by decide +kernel
theorem dX4_hold_19 : decode cX4_hold 19 = .ok (.iconst 1, 1) := by decide +kernel
theorem dX4_hold_20 : decode cX4_hold 20 = .ok (.if_icmp .le 5, 3) := by decide +kernel
theorem dX4_hold_23 : decode cX4_hold 23 = .ok (.iconst (-1), 1) := by decide +kernel
theorem dX4_hold_24 : decode cX4_hold 24 = .ok (.ireturn, 1) := by decide +kernel
theorem dX4_hold_25 : decode cX4_hold 25 = .ok (.iload_n 2, 1) := by decide +kernel
theorem dX4_hold_26 : decode cX4_hold 26 = .ok (.iconst 1, 1) := by decide +kernel
theorem dX4_hold_27 : decode cX4_hold 27 = .ok (.if_icmp .ne 7, 3) := by decide +kernel
theorem dX4_hold_30 : decode cX4_hold 30 = .ok (.iconst 1, 1) := by decide +kernel
theorem dX4_hold_31 : decode cX4_hold 31 = .ok (.goto 4, 3) := by decide +kernel
theorem dX4_hold_34 : decode cX4_hold 34 = .ok (.iconst 0, 1) := by decide +kernel
theorem dX4_hold_35 : decode cX4_hold 35 = .ok (.istore_n 3, 1) := by decide +kernel
theorem dX4_hold_36 : decode cX4_hold 36 = .ok (.aload_n 0, 1) := by decide +kernel
theorem dX4_hold_37 : decode cX4_hold 37 = .ok (.getfield 10, 3) := by decide +kernel
theorem dX4_hold_40 : decode cX4_hold 40 = .ok (.getfield 30, 3) := by decide +kernel
theorem dX4_hold_43 : decode cX4_hold 43 = .ok (.getfield 55, 3) := by decide +kernel
theorem dX4_hold_46 : decode cX4_hold 46 = .ok (.iload_n 1, 1) := by decide +kernel
theorem dX4_hold_47 : decode cX4_hold 47 = .ok (.iaload, 1) := by decide +kernel
theorem dX4_hold_48 : decode cX4_hold 48 = .ok (.istore 4, 2) := by decide +kernel
theorem dX4_hold_50 : decode cX4_hold 50 = .ok (.iload 4, 2) := by decide +kernel
theorem dX4_hold_52 : decode cX4_hold 52 = .ok (.iconst 2, 1) := by decide +kernel
theorem dX4_hold_53 : decode cX4_hold 53 = .ok (.if_icmp .eq 9, 3) := by decide +kernel
theorem dX4_hold_56 : decode cX4_hold 56 = .ok (.iload 4, 2) := by decide +kernel
theorem dX4_hold_58 : decode cX4_hold 58 = .ok (.iload_n 3, 1) := by decide +kernel
theorem dX4_hold_59 : decode cX4_hold 59 = .ok (.if_icmp .ne 6, 3) := by decide +kernel
theorem dX4_hold_62 : decode cX4_hold 62 = .ok (.bipush (-2), 2) := by decide +kernel
theorem dX4_hold_64 : decode cX4_hold 64 = .ok (.ireturn, 1) := by decide +kernel
theorem dX4_hold_65 : decode cX4_hold 65 = .ok (.aload_n 0, 1) := by decide +kernel
theorem dX4_hold_66 : decode cX4_hold 66 = .ok (.getfield 22, 3) := by decide +kernel
theorem dX4_hold_69 : decode cX4_hold 69 = .ok (.aload_n 0, 1) := by decide +kernel
theorem dX4_hold_70 : decode cX4_hold 70 = .ok (.getfield 10, 3) := by decide +kernel
theorem dX4_hold_73 : decode cX4_hold 73 = .ok (.invokevirtual 40, 3) := by decide +kernel
theorem dX4_hold_76 : decode cX4_hold 76 = .ok (.aload_n 0, 1) := by decide +kernel
theorem dX4_hold_77 : decode cX4_hold 77 = .ok (.getfield 10, 3) := by decide +kernel
theorem dX4_hold_80 : decode cX4_hold 80 = .ok (.getfield 30, 3) := by decide +kernel
theorem dX4_hold_83 : decode cX4_hold 83 = .ok (.getfield 55, 3) := by decide +kernel
theorem dX4_hold_86 : decode cX4_hold 86 = .ok (.iload_n 1, 1) := by decide +kernel
theorem dX4_hold_87 : decode cX4_hold 87 = .ok (.iload_n 3, 1) := by decide +kernel
theorem dX4_hold_88 : decode cX4_hold 88 = .ok (.iastore, 1) := by decide +kernel
theorem dX4_hold_89 : decode cX4_hold 89 = .ok (.aload_n 0, 1) := by decide +kernel
theorem dX4_hold_90 : decode cX4_hold 90 = .ok (.getfield 10, 3) := by decide +kernel
theorem dX4_hold_93 : decode cX4_hold 93 = .ok (.getfield 58, 3) := by decide +kernel
theorem dX4_hold_96 : decode cX4_hold 96 = .ok (.iload_n 1, 1) := by decide +kernel
theorem dX4_hold_97 : decode cX4_hold 97 = .ok (.invokevirtual 62, 3) := by decide +kernel
theorem dX4_hold_100 : decode cX4_hold 100 = .ok (.ireturn, 1) := by decide +kernel
set_option maxRecDepth 20000 in
theorem ggX4_fail_X1_has : GoodIn wsX4_fail wsX1_has := goodIn_r _ [10, 11, 97, 98, 99, 100, 101, 102, 103, 104] (by decide +kernel) (by decide +kernel)
set_option maxRecDepth 20000 in
theorem gX4_fail_X1_has : GoodIn wsX4_fail (wsV RX4 52 RX1 yX1_has wsX1_has) := goodIn_app (goodIn_of _ (by decide +kernel)) ggX4_fail_X1_has
set_option maxRecDepth 20000 in
theorem ggX4_fail_X2_keep : GoodIn wsX4_fail wsX2_keep := goodIn_r _ [16, 17, 18, 19, 20, 21, 22, 23, 24, 25, 26, 27, 28, 29, 30, 31, 32, 33, 34, 35, 36, 37, 38, 39, 9, 40, 11, 41, 42, 43, 44, 45, 46, 47, 48, 49, 50, 51, 52, 53, 54, 55, 56, 57, 58, 59, 60, 61, 62, 63, 64, 65, 66, 67, 105, 106, 107, 93, 94, 95, 96, 97, 98, 99, 100, 101, 102, 103, 104, 108, 109, 110, 111, 112, 113, 114, 115, 116] (by decide +kernel) (by decide +kernel)
set_option maxRecDepth 20000 in
theorem gX4_fail_X2_keep : GoodIn wsX4_fail (wsV RX4 40 RX2 yX2_keep wsX2_keep) := goodIn_app (goodIn_of _ (by decide +kernel)) ggX4_fail_X2_keep
set_option maxRecDepth 20000 in
theorem ggX4_fail_X3_breakCar : GoodIn wsX4_fail wsX3_breakCar := goodIn_r _ [71, 35, 72, 36, 73, 29, 74, 75, 76, 52, 77, 54, 55, 57, 58, 62, 59, 78, 79, 80, 81, 82, 83, 84, 85, 93, 94, 95, 96, 97, 98, 99, 100, 101, 102, 103, 104, 108, 109, 110, 111, 112, 113, 114, 115, 116] (by decide +kernel) (by decide +kernel)
set_option maxRecDepth 20000 in
theorem gX4_fail_X3_breakCar : GoodIn wsX4_fail (wsV RX4 68 RX3 yX3_breakCar wsX3_breakCar) := goodIn_app (goodIn_of _ (by decide +kernel)) ggX4_fail_X3_breakCar
set_option maxRecDepth 20000 in
theorem ggX4_fail_X0_numberIn : GoodIn wsX4_fail wsX0_numberIn := goodIn_r _ [89, 54, 58, 108, 109, 110, 111, 112, 113, 114, 115, 116] (by decide +kernel) (by decide +kernel)
set_option maxRecDepth 20000 in
theorem gX4_fail_X0_numberIn : GoodIn wsX4_fail (wsV RX4 72 RX0 yX0_numberIn wsX0_numberIn) := goodIn_app (goodIn_of _ (by decide +kernel)) ggX4_fail_X0_numberIn
theorem dX4_fail_0 : decode cX4_fail 0 = .ok (.aload_n 0, 1) := by decide +kernel
theorem dX4_fail_1 : decode cX4_fail 1 = .ok (.getfield 10, 3) := by decide +kernel
theorem dX4_fail_4 : decode cX4_fail 4 = .ok (.getfield 30, 3) := by decide +kernel
theorem dX4_fail_7 : decode cX4_fail 7 = .ok (.iload_n 1, 1) := by decide +kernel
theorem dX4_fail_8 : decode cX4_fail 8 = .ok (.invokevirtual 52, 3) := by decide +kernel
theorem dX4_fail_11 : decode cX4_fail 11 = .ok (.ifCond .ne 5, 3) := by decide +kernel
theorem dX4_fail_14 : decode cX4_fail 14 = .ok (.iconst (-1), 1) := by decide +kernel
theorem dX4_fail_15 : decode cX4_fail 15 = .ok (.ireturn, 1) := by decide +kernel
theorem dX4_fail_16 : decode cX4_fail 16 = .ok (.aload_n 0, 1) := by decide +kernel
theorem dX4_fail_17 : decode cX4_fail 17 = .ok (.getfield 10, 3) := by decide +kernel
theorem dX4_fail_20 : decode cX4_fail 20 = .ok (.getfield 30, 3) := by decide +kernel
theorem dX4_fail_23 : decode cX4_fail 23 = .ok (.getfield 55, 3) := by decide +kernel
theorem dX4_fail_26 : decode cX4_fail 26 = .ok (.iload_n 1, 1) := by decide +kernel
theorem dX4_fail_27 : decode cX4_fail 27 = .ok (.iaload, 1) := by decide +kernel
theorem dX4_fail_28 : decode cX4_fail 28 = .ok (.iconst 2, 1) := by decide +kernel
theorem dX4_fail_29 : decode cX4_fail 29 = .ok (.if_icmp .ne 6, 3) := by decide +kernel
theorem dX4_fail_32 : decode cX4_fail 32 = .ok (.bipush (-2), 2) := by decide +kernel
theorem dX4_fail_34 : decode cX4_fail 34 = .ok (.ireturn, 1) := by decide +kernel
theorem dX4_fail_35 : decode cX4_fail 35 = .ok (.aload_n 0, 1) := by decide +kernel
theorem dX4_fail_36 : decode cX4_fail 36 = .ok (.getfield 22, 3) := by decide +kernel
theorem dX4_fail_39 : decode cX4_fail 39 = .ok (.aload_n 0, 1) := by decide +kernel
theorem dX4_fail_40 : decode cX4_fail 40 = .ok (.getfield 10, 3) := by decide +kernel
theorem dX4_fail_43 : decode cX4_fail 43 = .ok (.invokevirtual 40, 3) := by decide +kernel
theorem dX4_fail_46 : decode cX4_fail 46 = .ok (.aload_n 0, 1) := by decide +kernel
theorem dX4_fail_47 : decode cX4_fail 47 = .ok (.getfield 10, 3) := by decide +kernel
theorem dX4_fail_50 : decode cX4_fail 50 = .ok (.iload_n 1, 1) := by decide +kernel
theorem dX4_fail_51 : decode cX4_fail 51 = .ok (.invokevirtual 68, 3) := by decide +kernel
theorem dX4_fail_54 : decode cX4_fail 54 = .ok (.aload_n 0, 1) := by decide +kernel
theorem dX4_fail_55 : decode cX4_fail 55 = .ok (.getfield 10, 3) := by decide +kernel
theorem dX4_fail_58 : decode cX4_fail 58 = .ok (.getfield 58, 3) := by decide +kernel
theorem dX4_fail_61 : decode cX4_fail 61 = .ok (.iconst 0, 1) := by decide +kernel
theorem dX4_fail_62 : decode cX4_fail 62 = .ok (.invokevirtual 72, 3) := by decide +kernel
theorem dX4_fail_65 : decode cX4_fail 65 = .ok (.ireturn, 1) := by decide +kernel
set_option maxRecDepth 20000 in
theorem ggX4_repair_X1_has : GoodIn wsX4_repair wsX1_has := goodIn_r _ [10, 11, 75, 76, 77, 78, 79, 80, 81, 82] (by decide +kernel) (by decide +kernel)
set_option maxRecDepth 20000 in
theorem gX4_repair_X1_has : GoodIn wsX4_repair (wsV RX4 52 RX1 yX1_has wsX1_has) := goodIn_app (goodIn_of _ (by decide +kernel)) ggX4_repair_X1_has
set_option maxRecDepth 20000 in
theorem ggX4_repair_X2_keep : GoodIn wsX4_repair wsX2_keep := goodIn_r _ [16, 17, 18, 19, 20, 21, 22, 23, 24, 25, 26, 27, 28, 29, 30, 31, 32, 33, 34, 35, 36, 37, 38, 39, 9, 40, 11, 41, 42, 43, 44, 45, 46, 47, 48, 49, 50, 51, 52, 53, 54, 55, 56, 57, 58, 59, 60, 61, 62, 63, 64, 65, 66, 67, 83, 84, 85, 71, 72, 73, 74, 75, 76, 77, 78, 79, 80, 81, 82, 86, 87, 88, 89, 90, 91, 92, 93, 94] (by decide +kernel) (by decide +kernel)
set_option maxRecDepth 20000 in
theorem gX4_repair_X2_keep : GoodIn wsX4_repair (wsV RX4 40 RX2 yX2_keep wsX2_keep) := goodIn_app (goodIn_of _ (by decide +kernel)) ggX4_repair_X2_keep
theorem dX4_repair_0 : decode cX4_repair 0 = .ok (.aload_n 0, 1) := by decide +kernel
theorem dX4_repair_1 : decode cX4_repair 1 = .ok (.getfield 10, 3) := by decide +kernel
theorem dX4_repair_4 : decode cX4_repair 4 = .ok (.getfield 30, 3) := by decide +kernel
theorem dX4_repair_7 : decode cX4_repair 7 = .ok (.iload_n 1, 1) := by decide +kernel
theorem dX4_repair_8 : decode cX4_repair 8 = .ok (.invokevirtual 52, 3) := by decide +kernel
theorem dX4_repair_11 : decode cX4_repair 11 = .ok (.ifCond .ne 5, 3) := by decide +kernel
theorem dX4_repair_14 : decode cX4_repair 14 = .ok (.iconst (-1), 1) := by decide +kernel
theorem dX4_repair_15 : decode cX4_repair 15 = .ok (.ireturn, 1) := by decide +kernel
theorem dX4_repair_16 : decode cX4_repair 16 = .ok (.aload_n 0, 1) := by decide +kernel
theorem dX4_repair_17 : decode cX4_repair 17 = .ok (.getfield 10, 3) := by decide +kernel
theorem dX4_repair_20 : decode cX4_repair 20 = .ok (.getfield 30, 3) := by decide +kernel
theorem dX4_repair_23 : decode cX4_repair 23 = .ok (.getfield 55, 3) := by decide +kernel
theorem dX4_repair_26 : decode cX4_repair 26 = .ok (.iload_n 1, 1) := by decide +kernel
theorem dX4_repair_27 : decode cX4_repair 27 = .ok (.iaload, 1) := by decide +kernel
theorem dX4_repair_28 : decode cX4_repair 28 = .ok (.iconst 2, 1) := by decide +kernel
theorem dX4_repair_29 : decode cX4_repair 29 = .ok (.if_icmp .eq 6, 3) := by decide +kernel
theorem dX4_repair_32 : decode cX4_repair 32 = .ok (.bipush (-2), 2) := by decide +kernel
theorem dX4_repair_34 : decode cX4_repair 34 = .ok (.ireturn, 1) := by decide +kernel
theorem dX4_repair_35 : decode cX4_repair 35 = .ok (.aload_n 0, 1) := by decide +kernel
theorem dX4_repair_36 : decode cX4_repair 36 = .ok (.getfield 22, 3) := by decide +kernel
theorem dX4_repair_39 : decode cX4_repair 39 = .ok (.aload_n 0, 1) := by decide +kernel
theorem dX4_repair_40 : decode cX4_repair 40 = .ok (.getfield 10, 3) := by decide +kernel
theorem dX4_repair_43 : decode cX4_repair 43 = .ok (.invokevirtual 40, 3) := by decide +kernel
theorem dX4_repair_46 : decode cX4_repair 46 = .ok (.aload_n 0, 1) := by decide +kernel
theorem dX4_repair_47 : decode cX4_repair 47 = .ok (.getfield 10, 3) := by decide +kernel
theorem dX4_repair_50 : decode cX4_repair 50 = .ok (.getfield 30, 3) := by decide +kernel
theorem dX4_repair_53 : decode cX4_repair 53 = .ok (.getfield 55, 3) := by decide +kernel
theorem dX4_repair_56 : decode cX4_repair 56 = .ok (.iload_n 1, 1) := by decide +kernel
theorem dX4_repair_57 : decode cX4_repair 57 = .ok (.iconst 0, 1) := by decide +kernel
theorem dX4_repair_58 : decode cX4_repair 58 = .ok (.iastore, 1) := by decide +kernel
theorem dX4_repair_59 : decode cX4_repair 59 = .ok (.aload_n 0, 1) := by decide +kernel
theorem dX4_repair_60 : decode cX4_repair 60 = .ok (.getfield 10, 3) := by decide +kernel
theorem dX4_repair_63 : decode cX4_repair 63 = .ok (.getfield 30, 3) := by decide +kernel
theorem dX4_repair_66 : decode cX4_repair 66 = .ok (.getfield 75, 3) := by decide +kernel
theorem dX4_repair_69 : decode cX4_repair 69 = .ok (.iload_n 1, 1) := by decide +kernel
theorem dX4_repair_70 : decode cX4_repair 70 = .ok (.iaload, 1) := by decide +kernel
theorem dX4_repair_71 : decode cX4_repair 71 = .ok (.ireturn, 1) := by decide +kernel
set_option maxRecDepth 20000 in
theorem ggX4_call_X4_isWay : GoodIn wsX4_call wsX4_isWay := goodIn_r _ [9, 10, 11, 8, 12] (by decide +kernel) (by decide +kernel)
set_option maxRecDepth 20000 in
theorem gX4_call_X4_isWay : GoodIn wsX4_call (va_wsS RX4 78 yX4_isWay wsX4_isWay) := goodIn_app (goodIn_of _ (by decide +kernel)) ggX4_call_X4_isWay
set_option maxRecDepth 20000 in
theorem ggX4_call_X2_keep : GoodIn wsX4_call wsX2_keep := goodIn_r _ [17, 18, 19, 20, 21, 22, 23, 24, 25, 26, 27, 28, 29, 30, 31, 32, 33, 34, 35, 36, 37, 38, 39, 40, 41, 42, 43, 44, 45, 46, 47, 48, 49, 50, 51, 52, 53, 54, 55, 56, 57, 58, 59, 60, 61, 62, 63, 64, 65, 66, 67, 68, 69, 70, 156, 157, 158, 143, 144, 145, 146, 159, 160, 161, 162, 163, 164, 165, 166, 147, 148, 149, 150, 151, 152, 153, 154, 155] (by decide +kernel) (by decide +kernel)
set_option maxRecDepth 20000 in
theorem gX4_call_X2_keep : GoodIn wsX4_call (wsV RX4 40 RX2 yX2_keep wsX2_keep) := goodIn_app (goodIn_of _ (by decide +kernel)) ggX4_call_X2_keep
set_option maxRecDepth 20000 in
theorem ggX4_call_X3_bestCar : GoodIn wsX4_call wsX3_bestCar := goodIn_r _ [74, 36, 75, 76, 77, 78, 28, 79, 80, 81, 82, 83, 84, 31, 85, 86, 87, 88, 30, 89, 90, 91, 41, 92, 45, 47, 93, 94, 95, 96, 97, 98, 99, 23, 100, 37, 101, 102, 103, 55, 104, 57, 58, 60, 105, 106, 107, 108, 61, 62, 109, 110, 111, 112, 113, 114, 115, 116, 117, 118, 119, 120, 121, 122, 123, 124, 125, 126, 127, 143, 144, 145, 146, 159, 160, 161, 162, 163, 164, 165, 166, 147, 148, 149, 150, 151, 152, 153, 154, 155] (by decide +kernel) (by decide +kernel)
set_option maxRecDepth 20000 in
theorem gX4_call_X3_bestCar : GoodIn wsX4_call (wsV RX4 83 RX3 yX3_bestCar wsX3_bestCar) := goodIn_app (goodIn_of _ (by decide +kernel)) ggX4_call_X3_bestCar
set_option maxRecDepth 20000 in
theorem ggX4_call_X0_add : GoodIn wsX4_call wsX0_add := goodIn_r _ [131, 57, 58, 60, 61, 62, 63, 64, 65, 66, 147, 148, 149, 150, 151, 152, 153, 154, 155] (by decide +kernel) (by decide +kernel)
set_option maxRecDepth 20000 in
theorem gX4_call_X0_add : GoodIn wsX4_call (wsV RX4 90 RX0 yX0_add wsX0_add) := goodIn_app (goodIn_of _ (by decide +kernel)) ggX4_call_X0_add
set_option maxRecDepth 20000 in
theorem ggX4_call_X0_give : GoodIn wsX4_call wsX0_give := goodIn_r _ [135, 61, 62, 66, 136, 137, 138, 55, 139, 57, 147, 148, 149, 150, 151, 152, 153, 154, 155] (by decide +kernel) (by decide +kernel)
set_option maxRecDepth 20000 in
theorem gX4_call_X0_give : GoodIn wsX4_call (wsV RX4 91 RX0 yX0_give wsX0_give) := goodIn_app (goodIn_of _ (by decide +kernel)) ggX4_call_X0_give
theorem dX4_call_0 : decode cX4_call 0 = .ok (.iload_n 1, 1) := by decide +kernel
theorem dX4_call_1 : decode cX4_call 1 = .ok (.iload_n 2, 1) := by decide +kernel
theorem dX4_call_2 : decode cX4_call 2 = .ok (.invokestatic 78, 3) := by decide +kernel
theorem dX4_call_5 : decode cX4_call 5 = .ok (.ifCond .ne 5, 3) := by decide +kernel
theorem dX4_call_8 : decode cX4_call 8 = .ok (.iconst (-1), 1) := by decide +kernel
theorem dX4_call_9 : decode cX4_call 9 = .ok (.ireturn, 1) := by decide +kernel
theorem dX4_call_10 : decode cX4_call 10 = .ok (.aload_n 0, 1) := by decide +kernel
theorem dX4_call_11 : decode cX4_call 11 = .ok (.getfield 10, 3) := by decide +kernel
theorem dX4_call_14 : decode cX4_call 14 = .ok (.getfield 58, 3) := by decide +kernel
theorem dX4_call_17 : decode cX4_call 17 = .ok (.getfield 82, 3) := by decide +kernel
theorem dX4_call_20 : decode cX4_call 20 = .ok (.bipush 40, 2) := by decide +kernel
theorem dX4_call_22 : decode cX4_call 22 = .ok (.if_icmp .lt 6, 3) := by decide +kernel
theorem dX4_call_25 : decode cX4_call 25 = .ok (.bipush (-3), 2) := by decide +kernel
theorem dX4_call_27 : decode cX4_call 27 = .ok (.ireturn, 1) := by decide +kernel
theorem dX4_call_28 : decode cX4_call 28 = .ok (.aload_n 0, 1) := by decide +kernel
theorem dX4_call_29 : decode cX4_call 29 = .ok (.getfield 22, 3) := by decide +kernel
theorem dX4_call_32 : decode cX4_call 32 = .ok (.aload_n 0, 1) := by decide +kernel
theorem dX4_call_33 : decode cX4_call 33 = .ok (.getfield 10, 3) := by decide +kernel
theorem dX4_call_36 : decode cX4_call 36 = .ok (.invokevirtual 40, 3) := by decide +kernel
theorem dX4_call_39 : decode cX4_call 39 = .ok (.aload_n 0, 1) := by decide +kernel
theorem dX4_call_40 : decode cX4_call 40 = .ok (.getfield 10, 3) := by decide +kernel
theorem dX4_call_43 : decode cX4_call 43 = .ok (.iload_n 1, 1) := by decide +kernel
theorem dX4_call_44 : decode cX4_call 44 = .ok (.iload_n 2, 1) := by decide +kernel
theorem dX4_call_45 : decode cX4_call 45 = .ok (.invokevirtual 83, 3) := by decide +kernel
theorem dX4_call_48 : decode cX4_call 48 = .ok (.istore_n 3, 1) := by decide +kernel
theorem dX4_call_49 : decode cX4_call 49 = .ok (.aload_n 0, 1) := by decide +kernel
theorem dX4_call_50 : decode cX4_call 50 = .ok (.getfield 10, 3) := by decide +kernel
theorem dX4_call_53 : decode cX4_call 53 = .ok (.getfield 58, 3) := by decide +kernel
theorem dX4_call_56 : decode cX4_call 56 = .ok (.iload_n 1, 1) := by decide +kernel
theorem dX4_call_57 : decode cX4_call 57 = .ok (.iload_n 2, 1) := by decide +kernel
theorem dX4_call_58 : decode cX4_call 58 = .ok (.aload_n 0, 1) := by decide +kernel
theorem dX4_call_59 : decode cX4_call 59 = .ok (.getfield 10, 3) := by decide +kernel
theorem dX4_call_62 : decode cX4_call 62 = .ok (.getfield 87, 3) := by decide +kernel
theorem dX4_call_65 : decode cX4_call 65 = .ok (.invokevirtual 90, 3) := by decide +kernel
theorem dX4_call_68 : decode cX4_call 68 = .ok (.istore 4, 2) := by decide +kernel
theorem dX4_call_70 : decode cX4_call 70 = .ok (.aload_n 0, 1) := by decide +kernel
theorem dX4_call_71 : decode cX4_call 71 = .ok (.getfield 10, 3) := by decide +kernel
theorem dX4_call_74 : decode cX4_call 74 = .ok (.getfield 58, 3) := by decide +kernel
theorem dX4_call_77 : decode cX4_call 77 = .ok (.iload 4, 2) := by decide +kernel
theorem dX4_call_79 : decode cX4_call 79 = .ok (.iload_n 3, 1) := by decide +kernel
theorem dX4_call_80 : decode cX4_call 80 = .ok (.invokevirtual 91, 3) := by decide +kernel
theorem dX4_call_83 : decode cX4_call 83 = .ok (.iload 4, 2) := by decide +kernel
theorem dX4_call_85 : decode cX4_call 85 = .ok (.ireturn, 1) := by decide +kernel
set_option maxRecDepth 20000 in
theorem ggX4_pass_X2_keep : GoodIn wsX4_pass wsX2_keep := goodIn_r _ [9, 10, 11, 12, 13, 14, 15, 16, 17, 18, 19, 20, 21, 22, 23, 24, 25, 26, 27, 28, 29, 30, 31, 32, 33, 34, 35, 36, 37, 38, 39, 40, 41, 42, 43, 44, 45, 46, 47, 48, 49, 50, 51, 52, 53, 54, 55, 56, 57, 58, 59, 60, 61, 62, 173, 174, 175, 169, 170, 171, 172, 176, 177, 178, 179, 180, 181, 182, 183, 184, 185, 186, 187, 188, 189, 190, 191, 192] (by decide +kernel) (by decide +kernel)
set_option maxRecDepth 20000 in
theorem gX4_pass_X2_keep : GoodIn wsX4_pass (wsV RX4 40 RX2 yX2_keep wsX2_keep) := goodIn_app (goodIn_of _ (by decide +kernel)) ggX4_pass_X2_keep
set_option maxRecDepth 20000 in
theorem ggX4_pass_X3_oneTick : GoodIn wsX4_pass wsX3_oneTick := goodIn_r _ [66, 29, 67, 68, 69, 70, 28, 71, 72, 22, 73, 74, 75, 20, 76, 77, 78, 79, 80, 81, 82, 83, 84, 23, 85, 86, 87, 88, 89, 90, 91, 33, 92, 37, 39, 93, 94, 95, 96, 97, 98, 99, 15, 100, 101, 102, 103, 47, 104, 49, 50, 52, 105, 106, 107, 108, 53, 54, 109, 110, 111, 112, 113, 114, 115, 116, 117, 118, 119, 120, 121, 122, 123, 124, 125, 126, 127, 128, 129, 130, 131, 58, 132, 133, 134, 135, 136, 137, 138, 139, 140, 141, 142, 143, 144, 145, 57, 146, 147, 148, 149, 56, 150, 151, 152, 153, 154, 155, 156, 157, 158, 159, 160, 161, 41, 43, 169, 170, 171, 172, 184, 185, 186, 187, 188, 189, 190, 191, 192, 176, 177, 178, 179, 180, 181, 182, 183] (by decide +kernel) (by decide +kernel)
set_option maxRecDepth 20000 in
theorem gX4_pass_X3_oneTick : GoodIn wsX4_pass (wsV RX4 95 RX3 yX3_oneTick wsX3_oneTick) := goodIn_app (goodIn_of _ (by decide +kernel)) ggX4_pass_X3_oneTick
set_option maxRecDepth 20000 in
theorem ggX4_pass_X0_numberIn : GoodIn wsX4_pass wsX0_numberIn := goodIn_r _ [165, 49, 53, 184, 185, 186, 187, 188, 189, 190, 191, 192] (by decide +kernel) (by decide +kernel)
set_option maxRecDepth 20000 in
theorem gX4_pass_X0_numberIn : GoodIn wsX4_pass (wsV RX4 72 RX0 yX0_numberIn wsX0_numberIn) := goodIn_app (goodIn_of _ (by decide +kernel)) ggX4_pass_X0_numberIn
theorem dX4_pass_0 : decode cX4_pass 0 = .ok (.iload_n 1, 1) := by decide +kernel
theorem dX4_pass_1 : decode cX4_pass 1 = .ok (.iconst 1, 1) := by decide +kernel
theorem dX4_pass_2 : decode cX4_pass 2 = .ok (.if_icmp .lt 10, 3) := by decide +kernel
theorem dX4_pass_5 : decode cX4_pass 5 = .ok (.iload_n 1, 1) := by decide +kernel
theorem dX4_pass_6 : decode cX4_pass 6 = .ok (.sipush 200, 3) := by decide +kernel
theorem dX4_pass_9 : decode cX4_pass 9 = .ok (.if_icmp .le 5, 3) := by decide +kernel
theorem dX4_pass_12 : decode cX4_pass 12 = .ok (.iconst (-1), 1) := by decide +kernel
theorem dX4_pass_13 : decode cX4_pass 13 = .ok (.ireturn, 1) := by decide +kernel
theorem dX4_pass_14 : decode cX4_pass 14 = .ok (.aload_n 0, 1) := by decide +kernel
theorem dX4_pass_15 : decode cX4_pass 15 = .ok (.getfield 10, 3) := by decide +kernel
theorem dX4_pass_18 : decode cX4_pass 18 = .ok (.getfield 87, 3) := by decide +kernel
theorem dX4_pass_21 : decode cX4_pass 21 = .ok (.iload_n 1, 1) := by decide +kernel
theorem dX4_pass_22 : decode cX4_pass 22 = .ok (.iadd, 1) := by decide +kernel
theorem dX4_pass_23 : decode cX4_pass 23 = .ok (.sipush 20000, 3) := by decide +kernel
theorem dX4_pass_26 : decode cX4_pass 26 = .ok (.if_icmp .le 6, 3) := by decide +kernel
theorem dX4_pass_29 : decode cX4_pass 29 = .ok (.bipush (-2), 2) := by decide +kernel
theorem dX4_pass_31 : decode cX4_pass 31 = .ok (.ireturn, 1) := by decide +kernel
theorem dX4_pass_32 : decode cX4_pass 32 = .ok (.aload_n 0, 1) := by decide +kernel
theorem dX4_pass_33 : decode cX4_pass 33 = .ok (.getfield 22, 3) := by decide +kernel
theorem dX4_pass_36 : decode cX4_pass 36 = .ok (.aload_n 0, 1) := by decide +kernel
theorem dX4_pass_37 : decode cX4_pass 37 = .ok (.getfield 10, 3) := by decide +kernel
theorem dX4_pass_40 : decode cX4_pass 40 = .ok (.invokevirtual 40, 3) := by decide +kernel
theorem dX4_pass_43 : decode cX4_pass 43 = .ok (.iconst 0, 1) := by decide +kernel
theorem dX4_pass_44 : decode cX4_pass 44 = .ok (.istore_n 2, 1) := by decide +kernel
theorem dX4_pass_45 : decode cX4_pass 45 = .ok (.iload_n 2, 1) := by decide +kernel
theorem dX4_pass_46 : decode cX4_pass 46 = .ok (.iload_n 1, 1) := by decide +kernel
theorem dX4_pass_47 : decode cX4_pass 47 = .ok (.if_icmp .ge 16, 3) := by decide +kernel
theorem dX4_pass_50 : decode cX4_pass 50 = .ok (.aload_n 0, 1) := by decide +kernel
theorem dX4_pass_51 : decode cX4_pass 51 = .ok (.getfield 10, 3) := by decide +kernel
theorem dX4_pass_54 : decode cX4_pass 54 = .ok (.invokevirtual 95, 3) := by decide +kernel
theorem dX4_pass_57 : decode cX4_pass 57 = .ok (.iinc 2 1, 3) := by decide +kernel
theorem dX4_pass_60 : decode cX4_pass 60 = .ok (.goto (-15), 3) := by decide +kernel
theorem dX4_pass_63 : decode cX4_pass 63 = .ok (.aload_n 0, 1) := by decide +kernel
theorem dX4_pass_64 : decode cX4_pass 64 = .ok (.getfield 10, 3) := by decide +kernel
theorem dX4_pass_67 : decode cX4_pass 67 = .ok (.getfield 58, 3) := by decide +kernel
theorem dX4_pass_70 : decode cX4_pass 70 = .ok (.iconst 3, 1) := by decide +kernel
theorem dX4_pass_71 : decode cX4_pass 71 = .ok (.invokevirtual 72, 3) := by decide +kernel
theorem dX4_pass_74 : decode cX4_pass 74 = .ok (.ireturn, 1) := by decide +kernel
set_option maxRecDepth 20000 in
theorem ggX4_count_X3_hour : GoodIn wsX4_count wsX3_hour := goodIn_r _ [14, 15, 56, 57, 58, 59] (by decide +kernel) (by decide +kernel)
set_option maxRecDepth 20000 in
theorem gX4_count_X3_hour : GoodIn wsX4_count (wsV RX4 102 RX3 yX3_hour wsX3_hour) := goodIn_app (goodIn_of _ (by decide +kernel)) ggX4_count_X3_hour
set_option maxRecDepth 20000 in
theorem ggX4_count_X0_numberIn : GoodIn wsX4_count wsX0_numberIn := goodIn_r _ [20, 21, 22, 68, 69, 70, 71, 72, 73, 74, 75, 76] (by decide +kernel) (by decide +kernel)
set_option maxRecDepth 20000 in
theorem gX4_count_X0_numberIn : GoodIn wsX4_count (wsV RX4 72 RX0 yX0_numberIn wsX0_numberIn) := goodIn_app (goodIn_of _ (by decide +kernel)) ggX4_count_X0_numberIn
set_option maxRecDepth 20000 in
theorem ggX4_count_X0_numberOfGroups : GoodIn wsX4_count wsX0_numberOfGroups := goodIn_r _ [26, 21, 27, 28, 29, 19, 30, 31, 32, 33, 34, 35, 36, 37, 38, 39, 40, 22, 68, 69, 70, 71, 72, 73, 74, 75, 76] (by decide +kernel) (by decide +kernel)
set_option maxRecDepth 20000 in
theorem gX4_count_X0_numberOfGroups : GoodIn wsX4_count (wsV RX4 106 RX0 yX0_numberOfGroups wsX0_numberOfGroups) := goodIn_app (goodIn_of _ (by decide +kernel)) ggX4_count_X0_numberOfGroups
set_option maxRecDepth 20000 in
theorem ggX4_count_X1_travelledByAll : GoodIn wsX4_count wsX1_travelledByAll := goodIn_r _ [45, 46, 47, 60, 61, 62, 63, 64, 65, 66, 67] (by decide +kernel) (by decide +kernel)
set_option maxRecDepth 20000 in
theorem gX4_count_X1_travelledByAll : GoodIn wsX4_count (wsV RX4 109 RX1 yX1_travelledByAll wsX1_travelledByAll) := goodIn_app (goodIn_of _ (by decide +kernel)) ggX4_count_X1_travelledByAll
set_option maxRecDepth 20000 in
theorem ggX4_count_X1_numberIn : GoodIn wsX4_count wsX1_numberIn := goodIn_r _ [51, 46, 52, 60, 61, 62, 63, 64, 65, 66, 67] (by decide +kernel) (by decide +kernel)
set_option maxRecDepth 20000 in
theorem gX4_count_X1_numberIn : GoodIn wsX4_count (wsV RX4 115 RX1 yX1_numberIn wsX1_numberIn) := goodIn_app (goodIn_of _ (by decide +kernel)) ggX4_count_X1_numberIn
theorem dX4_count_0 : decode cX4_count 0 = .ok (.iload_n 1, 1) := by decide +kernel
theorem dX4_count_1 : decode cX4_count 1 = .ok (.tableswitch 222 0 13 #[71, 79, 87, 98, 109, 121, 133, 145, 157, 168, 179, 190, 202, 214], 71) := by decide +kernel
theorem dX4_count_72 : decode cX4_count 72 = .ok (.aload_n 0, 1) := by decide +kernel
theorem dX4_count_73 : decode cX4_count 73 = .ok (.getfield 10, 3) := by decide +kernel
theorem dX4_count_76 : decode cX4_count 76 = .ok (.getfield 87, 3) := by decide +kernel
theorem dX4_count_79 : decode cX4_count 79 = .ok (.ireturn, 1) := by decide +kernel
theorem dX4_count_80 : decode cX4_count 80 = .ok (.aload_n 0, 1) := by decide +kernel
theorem dX4_count_81 : decode cX4_count 81 = .ok (.getfield 10, 3) := by decide +kernel
theorem dX4_count_84 : decode cX4_count 84 = .ok (.invokevirtual 102, 3) := by decide +kernel
theorem dX4_count_87 : decode cX4_count 87 = .ok (.ireturn, 1) := by decide +kernel
theorem dX4_count_88 : decode cX4_count 88 = .ok (.aload_n 0, 1) := by decide +kernel
theorem dX4_count_89 : decode cX4_count 89 = .ok (.getfield 10, 3) := by decide +kernel
theorem dX4_count_92 : decode cX4_count 92 = .ok (.getfield 30, 3) := by decide +kernel
theorem dX4_count_95 : decode cX4_count 95 = .ok (.getfield 34, 3) := by decide +kernel
theorem dX4_count_98 : decode cX4_count 98 = .ok (.ireturn, 1) := by decide +kernel
theorem dX4_count_99 : decode cX4_count 99 = .ok (.aload_n 0, 1) := by decide +kernel
theorem dX4_count_100 : decode cX4_count 100 = .ok (.getfield 10, 3) := by decide +kernel
theorem dX4_count_103 : decode cX4_count 103 = .ok (.getfield 58, 3) := by decide +kernel
theorem dX4_count_106 : decode cX4_count 106 = .ok (.getfield 82, 3) := by decide +kernel
theorem dX4_count_109 : decode cX4_count 109 = .ok (.ireturn, 1) := by decide +kernel
theorem dX4_count_110 : decode cX4_count 110 = .ok (.aload_n 0, 1) := by decide +kernel
theorem dX4_count_111 : decode cX4_count 111 = .ok (.getfield 10, 3) := by decide +kernel
theorem dX4_count_114 : decode cX4_count 114 = .ok (.getfield 58, 3) := by decide +kernel
theorem dX4_count_117 : decode cX4_count 117 = .ok (.iconst 0, 1) := by decide +kernel
theorem dX4_count_118 : decode cX4_count 118 = .ok (.invokevirtual 72, 3) := by decide +kernel
theorem dX4_count_121 : decode cX4_count 121 = .ok (.ireturn, 1) := by decide +kernel
theorem dX4_count_122 : decode cX4_count 122 = .ok (.aload_n 0, 1) := by decide +kernel
theorem dX4_count_123 : decode cX4_count 123 = .ok (.getfield 10, 3) := by decide +kernel
theorem dX4_count_126 : decode cX4_count 126 = .ok (.getfield 58, 3) := by decide +kernel
theorem dX4_count_129 : decode cX4_count 129 = .ok (.iconst 1, 1) := by decide +kernel
theorem dX4_count_130 : decode cX4_count 130 = .ok (.invokevirtual 72, 3) := by decide +kernel
theorem dX4_count_133 : decode cX4_count 133 = .ok (.ireturn, 1) := by decide +kernel
theorem dX4_count_134 : decode cX4_count 134 = .ok (.aload_n 0, 1) := by decide +kernel
theorem dX4_count_135 : decode cX4_count 135 = .ok (.getfield 10, 3) := by decide +kernel
theorem dX4_count_138 : decode cX4_count 138 = .ok (.getfield 58, 3) := by decide +kernel
theorem dX4_count_141 : decode cX4_count 141 = .ok (.iconst 2, 1) := by decide +kernel
theorem dX4_count_142 : decode cX4_count 142 = .ok (.invokevirtual 72, 3) := by decide +kernel
theorem dX4_count_145 : decode cX4_count 145 = .ok (.ireturn, 1) := by decide +kernel
theorem dX4_count_146 : decode cX4_count 146 = .ok (.aload_n 0, 1) := by decide +kernel
theorem dX4_count_147 : decode cX4_count 147 = .ok (.getfield 10, 3) := by decide +kernel
theorem dX4_count_150 : decode cX4_count 150 = .ok (.getfield 58, 3) := by decide +kernel
theorem dX4_count_153 : decode cX4_count 153 = .ok (.iconst 3, 1) := by decide +kernel
theorem dX4_count_154 : decode cX4_count 154 = .ok (.invokevirtual 72, 3) := by decide +kernel
theorem dX4_count_157 : decode cX4_count 157 = .ok (.ireturn, 1) := by decide +kernel
theorem dX4_count_158 : decode cX4_count 158 = .ok (.aload_n 0, 1) := by decide +kernel
theorem dX4_count_159 : decode cX4_count 159 = .ok (.getfield 10, 3) := by decide +kernel
theorem dX4_count_162 : decode cX4_count 162 = .ok (.getfield 58, 3) := by decide +kernel
theorem dX4_count_165 : decode cX4_count 165 = .ok (.invokevirtual 106, 3) := by decide +kernel
theorem dX4_count_168 : decode cX4_count 168 = .ok (.ireturn, 1) := by decide +kernel
theorem dX4_count_169 : decode cX4_count 169 = .ok (.aload_n 0, 1) := by decide +kernel
theorem dX4_count_170 : decode cX4_count 170 = .ok (.getfield 10, 3) := by decide +kernel
theorem dX4_count_173 : decode cX4_count 173 = .ok (.getfield 30, 3) := by decide +kernel
theorem dX4_count_176 : decode cX4_count 176 = .ok (.invokevirtual 109, 3) := by decide +kernel
theorem dX4_count_179 : decode cX4_count 179 = .ok (.ireturn, 1) := by decide +kernel
theorem dX4_count_180 : decode cX4_count 180 = .ok (.aload_n 0, 1) := by decide +kernel
theorem dX4_count_181 : decode cX4_count 181 = .ok (.getfield 10, 3) := by decide +kernel
theorem dX4_count_184 : decode cX4_count 184 = .ok (.getfield 30, 3) := by decide +kernel
theorem dX4_count_187 : decode cX4_count 187 = .ok (.getfield 112, 3) := by decide +kernel
theorem dX4_count_190 : decode cX4_count 190 = .ok (.ireturn, 1) := by decide +kernel
theorem dX4_count_191 : decode cX4_count 191 = .ok (.aload_n 0, 1) := by decide +kernel
theorem dX4_count_192 : decode cX4_count 192 = .ok (.getfield 10, 3) := by decide +kernel
theorem dX4_count_195 : decode cX4_count 195 = .ok (.getfield 30, 3) := by decide +kernel
theorem dX4_count_198 : decode cX4_count 198 = .ok (.iconst 1, 1) := by decide +kernel
theorem dX4_count_199 : decode cX4_count 199 = .ok (.invokevirtual 115, 3) := by decide +kernel
theorem dX4_count_202 : decode cX4_count 202 = .ok (.ireturn, 1) := by decide +kernel
theorem dX4_count_203 : decode cX4_count 203 = .ok (.aload_n 0, 1) := by decide +kernel
theorem dX4_count_204 : decode cX4_count 204 = .ok (.getfield 10, 3) := by decide +kernel
theorem dX4_count_207 : decode cX4_count 207 = .ok (.getfield 30, 3) := by decide +kernel
theorem dX4_count_210 : decode cX4_count 210 = .ok (.iconst 2, 1) := by decide +kernel
theorem dX4_count_211 : decode cX4_count 211 = .ok (.invokevirtual 115, 3) := by decide +kernel
theorem dX4_count_214 : decode cX4_count 214 = .ok (.ireturn, 1) := by decide +kernel
theorem dX4_count_215 : decode cX4_count 215 = .ok (.aload_n 0, 1) := by decide +kernel
theorem dX4_count_216 : decode cX4_count 216 = .ok (.getfield 22, 3) := by decide +kernel
theorem dX4_count_219 : decode cX4_count 219 = .ok (.getfield 98, 3) := by decide +kernel
theorem dX4_count_222 : decode cX4_count 222 = .ok (.ireturn, 1) := by decide +kernel
theorem dX4_count_223 : decode cX4_count 223 = .ok (.iconst (-1), 1) := by decide +kernel
theorem dX4_count_224 : decode cX4_count 224 = .ok (.ireturn, 1) := by decide +kernel
set_option maxRecDepth 20000 in
theorem ggX4_car_X1_has : GoodIn wsX4_car wsX1_has := goodIn_r _ [11, 12, 71, 72, 73, 74, 75, 76, 77, 78] (by decide +kernel) (by decide +kernel)
set_option maxRecDepth 20000 in
theorem gX4_car_X1_has : GoodIn wsX4_car (wsV RX4 52 RX1 yX1_has wsX1_has) := goodIn_app (goodIn_of _ (by decide +kernel)) ggX4_car_X1_has
set_option maxRecDepth 20000 in
theorem ggX4_car_X0_numberOf : GoodIn wsX4_car wsX0_numberOf := goodIn_r _ [17, 18, 19, 20, 79, 80, 81, 82, 83, 84, 85, 86, 87] (by decide +kernel) (by decide +kernel)
set_option maxRecDepth 20000 in
theorem gX4_car_X0_numberOf : GoodIn wsX4_car (wsV RX4 116 RX0 yX0_numberOf wsX0_numberOf) := goodIn_app (goodIn_of _ (by decide +kernel)) ggX4_car_X0_numberOf
set_option maxRecDepth 20000 in
theorem ggX4_car_X0_stopsOf : GoodIn wsX4_car wsX0_stopsOf := goodIn_r _ [24, 18, 25, 26, 27, 28, 29, 16, 30, 19, 20, 31, 32, 33, 34, 79, 80, 81, 82, 83, 84, 85, 86, 87] (by decide +kernel) (by decide +kernel)
set_option maxRecDepth 20000 in
theorem gX4_car_X0_stopsOf : GoodIn wsX4_car (wsV RX4 119 RX0 yX0_stopsOf wsX0_stopsOf) := goodIn_app (goodIn_of _ (by decide +kernel)) ggX4_car_X0_stopsOf
set_option maxRecDepth 20000 in
theorem ggX4_car_J6_bitCount_0f7a4 : GoodIn wsX4_car wsJ6_bitCount_0f7a4 := goodIn_r _ [38, 39, 40, 41] (by decide +kernel) (by decide +kernel)
set_option maxRecDepth 20000 in
theorem gX4_car_J6_bitCount_0f7a4 : GoodIn wsX4_car (va_wsS RX4 122 yJ6_bitCount_0f7a4 wsJ6_bitCount_0f7a4) := goodIn_app (goodIn_of _ (by decide +kernel)) ggX4_car_J6_bitCount_0f7a4
set_option maxRecDepth 20000 in
theorem ggX4_car_X0_aimOf : GoodIn wsX4_car wsX0_aimOf := goodIn_r _ [45, 18, 26, 25, 31, 32, 33, 16, 34, 19, 20, 46, 47, 48, 49, 50, 51, 52, 27, 28, 29, 30, 79, 80, 81, 82, 83, 84, 85, 86, 87] (by decide +kernel) (by decide +kernel)
set_option maxRecDepth 20000 in
theorem gX4_car_X0_aimOf : GoodIn wsX4_car (wsV RX4 127 RX0 yX0_aimOf wsX0_aimOf) := goodIn_app (goodIn_of _ (by decide +kernel)) ggX4_car_X0_aimOf
set_option maxRecDepth 20000 in
theorem ggX4_car_X3_isAwake : GoodIn wsX4_car wsX3_isAwake := goodIn_r _ [57, 58, 59, 60, 61, 56, 62, 63, 67, 68, 69, 70] (by decide +kernel) (by decide +kernel)
set_option maxRecDepth 20000 in
theorem gX4_car_X3_isAwake : GoodIn wsX4_car (wsV RX4 133 RX3 yX3_isAwake wsX3_isAwake) := goodIn_app (goodIn_of _ (by decide +kernel)) ggX4_car_X3_isAwake
theorem dX4_car_0 : decode cX4_car 0 = .ok (.aload_n 0, 1) := by decide +kernel
theorem dX4_car_1 : decode cX4_car 1 = .ok (.getfield 10, 3) := by decide +kernel
theorem dX4_car_4 : decode cX4_car 4 = .ok (.getfield 30, 3) := by decide +kernel
theorem dX4_car_7 : decode cX4_car 7 = .ok (.iload_n 1, 1) := by decide +kernel
theorem dX4_car_8 : decode cX4_car 8 = .ok (.invokevirtual 52, 3) := by decide +kernel
theorem dX4_car_11 : decode cX4_car 11 = .ok (.ifCond .ne 5, 3) := by decide +kernel
theorem dX4_car_14 : decode cX4_car 14 = .ok (.iconst (-1), 1) := by decide +kernel
theorem dX4_car_15 : decode cX4_car 15 = .ok (.ireturn, 1) := by decide +kernel
theorem dX4_car_16 : decode cX4_car 16 = .ok (.iload_n 2, 1) := by decide +kernel
theorem dX4_car_17 : decode cX4_car 17 = .ok (.tableswitch 168 0 7 #[47, 60, 73, 86, 99, 114, 138, 151], 47) := by decide +kernel
theorem dX4_car_64 : decode cX4_car 64 = .ok (.aload_n 0, 1) := by decide +kernel
theorem dX4_car_65 : decode cX4_car 65 = .ok (.getfield 10, 3) := by decide +kernel
theorem dX4_car_68 : decode cX4_car 68 = .ok (.getfield 30, 3) := by decide +kernel
theorem dX4_car_71 : decode cX4_car 71 = .ok (.getfield 75, 3) := by decide +kernel
theorem dX4_car_74 : decode cX4_car 74 = .ok (.iload_n 1, 1) := by decide +kernel
theorem dX4_car_75 : decode cX4_car 75 = .ok (.iaload, 1) := by decide +kernel
theorem dX4_car_76 : decode cX4_car 76 = .ok (.ireturn, 1) := by decide +kernel
theorem dX4_car_77 : decode cX4_car 77 = .ok (.aload_n 0, 1) := by decide +kernel
theorem dX4_car_78 : decode cX4_car 78 = .ok (.getfield 10, 3) := by decide +kernel
theorem dX4_car_81 : decode cX4_car 81 = .ok (.getfield 30, 3) := by decide +kernel
theorem dX4_car_84 : decode cX4_car 84 = .ok (.getfield 55, 3) := by decide +kernel
theorem dX4_car_87 : decode cX4_car 87 = .ok (.iload_n 1, 1) := by decide +kernel
theorem dX4_car_88 : decode cX4_car 88 = .ok (.iaload, 1) := by decide +kernel
theorem dX4_car_89 : decode cX4_car 89 = .ok (.ireturn, 1) := by decide +kernel
theorem dX4_car_90 : decode cX4_car 90 = .ok (.aload_n 0, 1) := by decide +kernel
theorem dX4_car_91 : decode cX4_car 91 = .ok (.getfield 10, 3) := by decide +kernel
theorem dX4_car_94 : decode cX4_car 94 = .ok (.getfield 58, 3) := by decide +kernel
theorem dX4_car_97 : decode cX4_car 97 = .ok (.iload_n 1, 1) := by decide +kernel
theorem dX4_car_98 : decode cX4_car 98 = .ok (.iconst 2, 1) := by decide +kernel
theorem dX4_car_99 : decode cX4_car 99 = .ok (.invokevirtual 116, 3) := by decide +kernel
theorem dX4_car_102 : decode cX4_car 102 = .ok (.ireturn, 1) := by decide +kernel
theorem dX4_car_103 : decode cX4_car 103 = .ok (.aload_n 0, 1) := by decide +kernel
theorem dX4_car_104 : decode cX4_car 104 = .ok (.getfield 10, 3) := by decide +kernel
theorem dX4_car_107 : decode cX4_car 107 = .ok (.getfield 58, 3) := by decide +kernel
theorem dX4_car_110 : decode cX4_car 110 = .ok (.iload_n 1, 1) := by decide +kernel
theorem dX4_car_111 : decode cX4_car 111 = .ok (.iconst 1, 1) := by decide +kernel
theorem dX4_car_112 : decode cX4_car 112 = .ok (.invokevirtual 116, 3) := by decide +kernel
theorem dX4_car_115 : decode cX4_car 115 = .ok (.ireturn, 1) := by decide +kernel
theorem dX4_car_116 : decode cX4_car 116 = .ok (.aload_n 0, 1) := by decide +kernel
theorem dX4_car_117 : decode cX4_car 117 = .ok (.getfield 10, 3) := by decide +kernel
theorem dX4_car_120 : decode cX4_car 120 = .ok (.getfield 58, 3) := by decide +kernel
theorem dX4_car_123 : decode cX4_car 123 = .ok (.iload_n 1, 1) := by decide +kernel
theorem dX4_car_124 : decode cX4_car 124 = .ok (.invokevirtual 119, 3) := by decide +kernel
theorem dX4_car_127 : decode cX4_car 127 = .ok (.invokestatic 122, 3) := by decide +kernel
theorem dX4_car_130 : decode cX4_car 130 = .ok (.ireturn, 1) := by decide +kernel
theorem dX4_car_131 : decode cX4_car 131 = .ok (.aload_n 0, 1) := by decide +kernel
theorem dX4_car_132 : decode cX4_car 132 = .ok (.getfield 10, 3) := by decide +kernel
theorem dX4_car_135 : decode cX4_car 135 = .ok (.getfield 58, 3) := by decide +kernel
theorem dX4_car_138 : decode cX4_car 138 = .ok (.iload_n 1, 1) := by decide +kernel
theorem dX4_car_139 : decode cX4_car 139 = .ok (.aload_n 0, 1) := by decide +kernel
theorem dX4_car_140 : decode cX4_car 140 = .ok (.getfield 10, 3) := by decide +kernel
theorem dX4_car_143 : decode cX4_car 143 = .ok (.getfield 30, 3) := by decide +kernel
theorem dX4_car_146 : decode cX4_car 146 = .ok (.getfield 75, 3) := by decide +kernel
theorem dX4_car_149 : decode cX4_car 149 = .ok (.iload_n 1, 1) := by decide +kernel
theorem dX4_car_150 : decode cX4_car 150 = .ok (.iaload, 1) := by decide +kernel
theorem dX4_car_151 : decode cX4_car 151 = .ok (.invokevirtual 127, 3) := by decide +kernel
theorem dX4_car_154 : decode cX4_car 154 = .ok (.ireturn, 1) := by decide +kernel
theorem dX4_car_155 : decode cX4_car 155 = .ok (.aload_n 0, 1) := by decide +kernel
theorem dX4_car_156 : decode cX4_car 156 = .ok (.getfield 10, 3) := by decide +kernel
theorem dX4_car_159 : decode cX4_car 159 = .ok (.getfield 30, 3) := by decide +kernel
theorem dX4_car_162 : decode cX4_car 162 = .ok (.getfield 130, 3) := by decide +kernel
theorem dX4_car_165 : decode cX4_car 165 = .ok (.iload_n 1, 1) := by decide +kernel
theorem dX4_car_166 : decode cX4_car 166 = .ok (.iaload, 1) := by decide +kernel
theorem dX4_car_167 : decode cX4_car 167 = .ok (.ireturn, 1) := by decide +kernel
theorem dX4_car_168 : decode cX4_car 168 = .ok (.aload_n 0, 1) := by decide +kernel
theorem dX4_car_169 : decode cX4_car 169 = .ok (.getfield 10, 3) := by decide +kernel
theorem dX4_car_172 : decode cX4_car 172 = .ok (.iload_n 1, 1) := by decide +kernel
theorem dX4_car_173 : decode cX4_car 173 = .ok (.invokevirtual 133, 3) := by decide +kernel
theorem dX4_car_176 : decode cX4_car 176 = .ok (.ifCond .eq 7, 3) := by decide +kernel
theorem dX4_car_179 : decode cX4_car 179 = .ok (.iconst 1, 1) := by decide +kernel
theorem dX4_car_180 : decode cX4_car 180 = .ok (.goto 4, 3) := by decide +kernel
theorem dX4_car_183 : decode cX4_car 183 = .ok (.iconst 0, 1) := by decide +kernel
theorem dX4_car_184 : decode cX4_car 184 = .ok (.ireturn, 1) := by decide +kernel
theorem dX4_car_185 : decode cX4_car 185 = .ok (.iconst (-1), 1) := by decide +kernel
theorem dX4_car_186 : decode cX4_car 186 = .ok (.ireturn, 1) := by decide +kernel
set_option maxRecDepth 20000 in
theorem ggX4_caller_X0_has : GoodIn wsX4_caller wsX0_has := goodIn_r _ [15, 16, 24, 25, 26, 27, 28, 29, 30, 31, 32] (by decide +kernel) (by decide +kernel)
set_option maxRecDepth 20000 in
theorem gX4_caller_X0_has : GoodIn wsX4_caller (wsV RX4 136 RX0 yX0_has wsX0_has) := goodIn_app (goodIn_of _ (by decide +kernel)) ggX4_caller_X0_has
theorem dX4_caller_0 : decode cX4_caller 0 = .ok (.aload_n 0, 1) := by decide +kernel
theorem dX4_caller_1 : decode cX4_caller 1 = .ok (.getfield 10, 3) := by decide +kernel
theorem dX4_caller_4 : decode cX4_caller 4 = .ok (.getfield 58, 3) := by decide +kernel
theorem dX4_caller_7 : decode cX4_caller 7 = .ok (.iload_n 1, 1) := by decide +kernel
theorem dX4_caller_8 : decode cX4_caller 8 = .ok (.invokevirtual 136, 3) := by decide +kernel
theorem dX4_caller_11 : decode cX4_caller 11 = .ok (.ifCond .ne 5, 3) := by decide +kernel
theorem dX4_caller_14 : decode cX4_caller 14 = .ok (.iconst (-1), 1) := by decide +kernel
theorem dX4_caller_15 : decode cX4_caller 15 = .ok (.ireturn, 1) := by decide +kernel
theorem dX4_caller_16 : decode cX4_caller 16 = .ok (.iload_n 2, 1) := by decide +kernel
theorem dX4_caller_17 : decode cX4_caller 17 = .ok (.tableswitch 151 0 7 #[47, 60, 73, 86, 99, 112, 125, 138], 47) := by decide +kernel
theorem dX4_caller_64 : decode cX4_caller 64 = .ok (.aload_n 0, 1) := by decide +kernel
theorem dX4_caller_65 : decode cX4_caller 65 = .ok (.getfield 10, 3) := by decide +kernel
theorem dX4_caller_68 : decode cX4_caller 68 = .ok (.getfield 58, 3) := by decide +kernel
theorem dX4_caller_71 : decode cX4_caller 71 = .ok (.getfield 137, 3) := by decide +kernel
theorem dX4_caller_74 : decode cX4_caller 74 = .ok (.iload_n 1, 1) := by decide +kernel
theorem dX4_caller_75 : decode cX4_caller 75 = .ok (.iaload, 1) := by decide +kernel
theorem dX4_caller_76 : decode cX4_caller 76 = .ok (.ireturn, 1) := by decide +kernel
theorem dX4_caller_77 : decode cX4_caller 77 = .ok (.aload_n 0, 1) := by decide +kernel
theorem dX4_caller_78 : decode cX4_caller 78 = .ok (.getfield 10, 3) := by decide +kernel
theorem dX4_caller_81 : decode cX4_caller 81 = .ok (.getfield 58, 3) := by decide +kernel
theorem dX4_caller_84 : decode cX4_caller 84 = .ok (.getfield 138, 3) := by decide +kernel
theorem dX4_caller_87 : decode cX4_caller 87 = .ok (.iload_n 1, 1) := by decide +kernel
theorem dX4_caller_88 : decode cX4_caller 88 = .ok (.iaload, 1) := by decide +kernel
theorem dX4_caller_89 : decode cX4_caller 89 = .ok (.ireturn, 1) := by decide +kernel
theorem dX4_caller_90 : decode cX4_caller 90 = .ok (.aload_n 0, 1) := by decide +kernel
theorem dX4_caller_91 : decode cX4_caller 91 = .ok (.getfield 10, 3) := by decide +kernel
theorem dX4_caller_94 : decode cX4_caller 94 = .ok (.getfield 58, 3) := by decide +kernel
theorem dX4_caller_97 : decode cX4_caller 97 = .ok (.getfield 141, 3) := by decide +kernel
theorem dX4_caller_100 : decode cX4_caller 100 = .ok (.iload_n 1, 1) := by decide +kernel
theorem dX4_caller_101 : decode cX4_caller 101 = .ok (.iaload, 1) := by decide +kernel
theorem dX4_caller_102 : decode cX4_caller 102 = .ok (.ireturn, 1) := by decide +kernel
theorem dX4_caller_103 : decode cX4_caller 103 = .ok (.aload_n 0, 1) := by decide +kernel
theorem dX4_caller_104 : decode cX4_caller 104 = .ok (.getfield 10, 3) := by decide +kernel
theorem dX4_caller_107 : decode cX4_caller 107 = .ok (.getfield 58, 3) := by decide +kernel
theorem dX4_caller_110 : decode cX4_caller 110 = .ok (.getfield 144, 3) := by decide +kernel
theorem dX4_caller_113 : decode cX4_caller 113 = .ok (.iload_n 1, 1) := by decide +kernel
theorem dX4_caller_114 : decode cX4_caller 114 = .ok (.iaload, 1) := by decide +kernel
theorem dX4_caller_115 : decode cX4_caller 115 = .ok (.ireturn, 1) := by decide +kernel
theorem dX4_caller_116 : decode cX4_caller 116 = .ok (.aload_n 0, 1) := by decide +kernel
theorem dX4_caller_117 : decode cX4_caller 117 = .ok (.getfield 10, 3) := by decide +kernel
theorem dX4_caller_120 : decode cX4_caller 120 = .ok (.getfield 58, 3) := by decide +kernel
theorem dX4_caller_123 : decode cX4_caller 123 = .ok (.getfield 147, 3) := by decide +kernel
theorem dX4_caller_126 : decode cX4_caller 126 = .ok (.iload_n 1, 1) := by decide +kernel
theorem dX4_caller_127 : decode cX4_caller 127 = .ok (.iaload, 1) := by decide +kernel
theorem dX4_caller_128 : decode cX4_caller 128 = .ok (.ireturn, 1) := by decide +kernel
theorem dX4_caller_129 : decode cX4_caller 129 = .ok (.aload_n 0, 1) := by decide +kernel
theorem dX4_caller_130 : decode cX4_caller 130 = .ok (.getfield 10, 3) := by decide +kernel
theorem dX4_caller_133 : decode cX4_caller 133 = .ok (.getfield 58, 3) := by decide +kernel
theorem dX4_caller_136 : decode cX4_caller 136 = .ok (.getfield 150, 3) := by decide +kernel
theorem dX4_caller_139 : decode cX4_caller 139 = .ok (.iload_n 1, 1) := by decide +kernel
theorem dX4_caller_140 : decode cX4_caller 140 = .ok (.iaload, 1) := by decide +kernel
theorem dX4_caller_141 : decode cX4_caller 141 = .ok (.ireturn, 1) := by decide +kernel
theorem dX4_caller_142 : decode cX4_caller 142 = .ok (.aload_n 0, 1) := by decide +kernel
theorem dX4_caller_143 : decode cX4_caller 143 = .ok (.getfield 10, 3) := by decide +kernel
theorem dX4_caller_146 : decode cX4_caller 146 = .ok (.getfield 58, 3) := by decide +kernel
theorem dX4_caller_149 : decode cX4_caller 149 = .ok (.getfield 153, 3) := by decide +kernel
theorem dX4_caller_152 : decode cX4_caller 152 = .ok (.iload_n 1, 1) := by decide +kernel
theorem dX4_caller_153 : decode cX4_caller 153 = .ok (.iaload, 1) := by decide +kernel
theorem dX4_caller_154 : decode cX4_caller 154 = .ok (.ireturn, 1) := by decide +kernel
theorem dX4_caller_155 : decode cX4_caller 155 = .ok (.aload_n 0, 1) := by decide +kernel
theorem dX4_caller_156 : decode cX4_caller 156 = .ok (.getfield 10, 3) := by decide +kernel
theorem dX4_caller_159 : decode cX4_caller 159 = .ok (.getfield 58, 3) := by decide +kernel
theorem dX4_caller_162 : decode cX4_caller 162 = .ok (.getfield 156, 3) := by decide +kernel
theorem dX4_caller_165 : decode cX4_caller 165 = .ok (.iload_n 1, 1) := by decide +kernel
theorem dX4_caller_166 : decode cX4_caller 166 = .ok (.iaload, 1) := by decide +kernel
theorem dX4_caller_167 : decode cX4_caller 167 = .ok (.ireturn, 1) := by decide +kernel
theorem dX4_caller_168 : decode cX4_caller 168 = .ok (.iconst (-1), 1) := by decide +kernel
theorem dX4_caller_169 : decode cX4_caller 169 = .ok (.ireturn, 1) := by decide +kernel
set_option maxRecDepth 20000 in
theorem ggX4_group_X0_firstOfGroup : GoodIn wsX4_group wsX0_firstOfGroup := goodIn_r _ [9, 10, 11, 12, 13, 8, 14, 15, 16, 17, 18, 19, 20, 21, 22, 23, 24, 25, 41, 42, 43, 44, 45, 46, 47, 48, 49] (by decide +kernel) (by decide +kernel)
set_option maxRecDepth 20000 in
theorem gX4_group_X0_firstOfGroup : GoodIn wsX4_group (wsV RX4 159 RX0 yX0_firstOfGroup wsX0_firstOfGroup) := goodIn_app (goodIn_of _ (by decide +kernel)) ggX4_group_X0_firstOfGroup
set_option maxRecDepth 20000 in
theorem ggX4_group_X0_has : GoodIn wsX4_group wsX0_has := goodIn_r _ [29, 10, 41, 42, 43, 44, 45, 46, 47, 48, 49] (by decide +kernel) (by decide +kernel)
set_option maxRecDepth 20000 in
theorem gX4_group_X0_has : GoodIn wsX4_group (wsV RX4 136 RX0 yX0_has wsX0_has) := goodIn_app (goodIn_of _ (by decide +kernel)) ggX4_group_X0_has
set_option maxRecDepth 20000 in
theorem ggX4_group_X0_sizeOfGroup : GoodIn wsX4_group wsX0_sizeOfGroup := goodIn_r _ [33, 10, 15, 16, 17, 8, 18, 19, 20, 21, 22, 23, 24, 25, 41, 42, 43, 44, 45, 46, 47, 48, 49] (by decide +kernel) (by decide +kernel)
set_option maxRecDepth 20000 in
theorem gX4_group_X0_sizeOfGroup : GoodIn wsX4_group (wsV RX4 162 RX0 yX0_sizeOfGroup wsX0_sizeOfGroup) := goodIn_app (goodIn_of _ (by decide +kernel)) ggX4_group_X0_sizeOfGroup
theorem dX4_group_0 : decode cX4_group 0 = .ok (.iload_n 1, 1) := by decide +kernel
theorem dX4_group_1 : decode cX4_group 1 = .ok (.ifCond .lt 12, 3) := by decide +kernel
theorem dX4_group_4 : decode cX4_group 4 = .ok (.iload_n 2, 1) := by decide +kernel
theorem dX4_group_5 : decode cX4_group 5 = .ok (.ifCond .lt 8, 3) := by decide +kernel
theorem dX4_group_8 : decode cX4_group 8 = .ok (.iload_n 2, 1) := by decide +kernel
theorem dX4_group_9 : decode cX4_group 9 = .ok (.iconst 3, 1) := by decide +kernel
theorem dX4_group_10 : decode cX4_group 10 = .ok (.if_icmp .le 5, 3) := by decide +kernel
theorem dX4_group_13 : decode cX4_group 13 = .ok (.iconst (-1), 1) := by decide +kernel
theorem dX4_group_14 : decode cX4_group 14 = .ok (.ireturn, 1) := by decide +kernel
theorem dX4_group_15 : decode cX4_group 15 = .ok (.aload_n 0, 1) := by decide +kernel
theorem dX4_group_16 : decode cX4_group 16 = .ok (.getfield 10, 3) := by decide +kernel
theorem dX4_group_19 : decode cX4_group 19 = .ok (.getfield 58, 3) := by decide +kernel
theorem dX4_group_22 : decode cX4_group 22 = .ok (.iload_n 1, 1) := by decide +kernel
theorem dX4_group_23 : decode cX4_group 23 = .ok (.invokevirtual 159, 3) := by decide +kernel
theorem dX4_group_26 : decode cX4_group 26 = .ok (.istore_n 3, 1) := by decide +kernel
theorem dX4_group_27 : decode cX4_group 27 = .ok (.aload_n 0, 1) := by decide +kernel
theorem dX4_group_28 : decode cX4_group 28 = .ok (.getfield 10, 3) := by decide +kernel
theorem dX4_group_31 : decode cX4_group 31 = .ok (.getfield 58, 3) := by decide +kernel
theorem dX4_group_34 : decode cX4_group 34 = .ok (.iload_n 3, 1) := by decide +kernel
theorem dX4_group_35 : decode cX4_group 35 = .ok (.invokevirtual 136, 3) := by decide +kernel
theorem dX4_group_38 : decode cX4_group 38 = .ok (.ifCond .ne 6, 3) := by decide +kernel
theorem dX4_group_41 : decode cX4_group 41 = .ok (.bipush (-9), 2) := by decide +kernel
theorem dX4_group_43 : decode cX4_group 43 = .ok (.ireturn, 1) := by decide +kernel
theorem dX4_group_44 : decode cX4_group 44 = .ok (.iload_n 2, 1) := by decide +kernel
theorem dX4_group_45 : decode cX4_group 45 = .ok (.tableswitch 65 0 2 #[27, 40, 53], 27) := by decide +kernel
theorem dX4_group_72 : decode cX4_group 72 = .ok (.aload_n 0, 1) := by decide +kernel
theorem dX4_group_73 : decode cX4_group 73 = .ok (.getfield 10, 3) := by decide +kernel
theorem dX4_group_76 : decode cX4_group 76 = .ok (.getfield 58, 3) := by decide +kernel
theorem dX4_group_79 : decode cX4_group 79 = .ok (.getfield 137, 3) := by decide +kernel
theorem dX4_group_82 : decode cX4_group 82 = .ok (.iload_n 3, 1) := by decide +kernel
theorem dX4_group_83 : decode cX4_group 83 = .ok (.iaload, 1) := by decide +kernel
theorem dX4_group_84 : decode cX4_group 84 = .ok (.ireturn, 1) := by decide +kernel
theorem dX4_group_85 : decode cX4_group 85 = .ok (.aload_n 0, 1) := by decide +kernel
theorem dX4_group_86 : decode cX4_group 86 = .ok (.getfield 10, 3) := by decide +kernel
theorem dX4_group_89 : decode cX4_group 89 = .ok (.getfield 58, 3) := by decide +kernel
theorem dX4_group_92 : decode cX4_group 92 = .ok (.getfield 138, 3) := by decide +kernel
theorem dX4_group_95 : decode cX4_group 95 = .ok (.iload_n 3, 1) := by decide +kernel
theorem dX4_group_96 : decode cX4_group 96 = .ok (.iaload, 1) := by decide +kernel
theorem dX4_group_97 : decode cX4_group 97 = .ok (.ireturn, 1) := by decide +kernel
theorem dX4_group_98 : decode cX4_group 98 = .ok (.aload_n 0, 1) := by decide +kernel
theorem dX4_group_99 : decode cX4_group 99 = .ok (.getfield 10, 3) := by decide +kernel
theorem dX4_group_102 : decode cX4_group 102 = .ok (.getfield 58, 3) := by decide +kernel
theorem dX4_group_105 : decode cX4_group 105 = .ok (.iload_n 3, 1) := by decide +kernel
theorem dX4_group_106 : decode cX4_group 106 = .ok (.invokevirtual 162, 3) := by decide +kernel
theorem dX4_group_109 : decode cX4_group 109 = .ok (.ireturn, 1) := by decide +kernel
theorem dX4_group_110 : decode cX4_group 110 = .ok (.iload_n 3, 1) := by decide +kernel
theorem dX4_group_111 : decode cX4_group 111 = .ok (.ireturn, 1) := by decide +kernel
theorem dX4_isFloor_0 : decode cX4_isFloor 0 = .ok (.iload_n 0, 1) := by decide +kernel
theorem dX4_isFloor_1 : decode cX4_isFloor 1 = .ok (.ifCond .lt 13, 3) := by decide +kernel
theorem dX4_isFloor_4 : decode cX4_isFloor 4 = .ok (.iload_n 0, 1) := by decide +kernel
theorem dX4_isFloor_5 : decode cX4_isFloor 5 = .ok (.bipush 16, 2) := by decide +kernel
theorem dX4_isFloor_7 : decode cX4_isFloor 7 = .ok (.if_icmp .ge 7, 3) := by decide +kernel
theorem dX4_isFloor_10 : decode cX4_isFloor 10 = .ok (.iconst 1, 1) := by decide +kernel
theorem dX4_isFloor_11 : decode cX4_isFloor 11 = .ok (.goto 4, 3) := by decide +kernel
theorem dX4_isFloor_14 : decode cX4_isFloor 14 = .ok (.iconst 0, 1) := by decide +kernel
theorem dX4_isFloor_15 : decode cX4_isFloor 15 = .ok (.ireturn, 1) := by decide +kernel
set_option maxRecDepth 20000 in
theorem ggX4_isWay_X4_isFloor : GoodIn wsX4_isWay wsX4_isFloor := goodIn_r _ [4] (by decide +kernel) (by decide +kernel)
set_option maxRecDepth 20000 in
theorem gX4_isWay_X4_isFloor : GoodIn wsX4_isWay (va_wsS RX4 26 yX4_isFloor wsX4_isFloor) := goodIn_app (goodIn_of _ (by decide +kernel)) ggX4_isWay_X4_isFloor
theorem dX4_isWay_0 : decode cX4_isWay 0 = .ok (.iload_n 0, 1) := by decide +kernel
theorem dX4_isWay_1 : decode cX4_isWay 1 = .ok (.invokestatic 26, 3) := by decide +kernel
theorem dX4_isWay_4 : decode cX4_isWay 4 = .ok (.ifCond .eq 19, 3) := by decide +kernel
theorem dX4_isWay_7 : decode cX4_isWay 7 = .ok (.iload_n 1, 1) := by decide +kernel
theorem dX4_isWay_8 : decode cX4_isWay 8 = .ok (.invokestatic 26, 3) := by decide +kernel
theorem dX4_isWay_11 : decode cX4_isWay 11 = .ok (.ifCond .eq 12, 3) := by decide +kernel
theorem dX4_isWay_14 : decode cX4_isWay 14 = .ok (.iload_n 0, 1) := by decide +kernel
theorem dX4_isWay_15 : decode cX4_isWay 15 = .ok (.iload_n 1, 1) := by decide +kernel
theorem dX4_isWay_16 : decode cX4_isWay 16 = .ok (.if_icmp .eq 7, 3) := by decide +kernel
theorem dX4_isWay_19 : decode cX4_isWay 19 = .ok (.iconst 1, 1) := by decide +kernel
theorem dX4_isWay_20 : decode cX4_isWay 20 = .ok (.goto 4, 3) := by decide +kernel
theorem dX4_isWay_23 : decode cX4_isWay 23 = .ok (.iconst 0, 1) := by decide +kernel
theorem dX4_isWay_24 : decode cX4_isWay 24 = .ok (.ireturn, 1) := by decide +kernel
