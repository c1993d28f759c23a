theorem dX5_addCar_12 : decode cX5_addCar 12 = .ok (.bipush 15, 2) := by decide +kernel
theorem dX5_addCar_14 : decode cX5_addCar 14 = .ok (.invokestatic 26, 3) := by decide +kernel
theorem dX5_addCar_17 : decode cX5_addCar 17 = .ok (.ifCond .eq 18, 3) := by decide +kernel
theorem dX5_addCar_20 : decode cX5_addCar 20 = .ok (.iload_n 2, 1) := by decide +kernel
theorem dX5_addCar_21 : decode cX5_addCar 21 = .ok (.iload_n 1, 1) := by decide +kernel
theorem dX5_addCar_22 : decode cX5_addCar 22 = .ok (.if_icmp .le 13, 3) := by decide +kernel
theorem dX5_addCar_25 : decode cX5_addCar 25 = .ok (.iload_n 3, 1) := by decide +kernel
theorem dX5_addCar_26 : decode cX5_addCar 26 = .ok (.iconst 1, 1) := by decide +kernel
theorem dX5_addCar_27 : decode cX5_addCar 27 = .ok (.bipush 8, 2) := by decide +kernel
theorem dX5_addCar_29 : decode cX5_addCar 29 = .ok (.invokestatic 26, 3) := by decide +kernel
theorem dX5_addCar_32 : decode cX5_addCar 32 = .ok (.ifCond .ne 5, 3) := by decide +kernel
theorem dX5_addCar_35 : decode cX5_addCar 35 = .ok (.iconst (-1), 1) := by decide +kernel
theorem dX5_addCar_36 : decode cX5_addCar 36 = .ok (.ireturn, 1) := by decide +kernel
theorem dX5_addCar_37 : decode cX5_addCar 37 = .ok (.aload_n 0, 1) := by decide +kernel
theorem dX5_addCar_38 : decode cX5_addCar 38 = .ok (.getfield 7, 3) := by decide +kernel
theorem dX5_addCar_41 : decode cX5_addCar 41 = .ok (.iconst 1, 1) := by decide +kernel
theorem dX5_addCar_42 : decode cX5_addCar 42 = .ok (.iaload, 1) := by decide +kernel
theorem dX5_addCar_43 : decode cX5_addCar 43 = .ok (.iconst 5, 1) := by decide +kernel
theorem dX5_addCar_44 : decode cX5_addCar 44 = .ok (.if_icmp .ne 6, 3) := by decide +kernel
theorem dX5_addCar_47 : decode cX5_addCar 47 = .ok (.bipush (-3), 2) := by decide +kernel
theorem dX5_addCar_49 : decode cX5_addCar 49 = .ok (.ireturn, 1) := by decide +kernel
theorem dX5_addCar_50 : decode cX5_addCar 50 = .ok (.aload_n 0, 1) := by decide +kernel
theorem dX5_addCar_51 : decode cX5_addCar 51 = .ok (.invokevirtual 95, 3) := by decide +kernel
theorem dX5_addCar_54 : decode cX5_addCar 54 = .ok (.aload_n 0, 1) := by decide +kernel
theorem dX5_addCar_55 : decode cX5_addCar 55 = .ok (.getfield 7, 3) := by decide +kernel
theorem dX5_addCar_58 : decode cX5_addCar 58 = .ok (.iconst 1, 1) := by decide +kernel
theorem dX5_addCar_59 : decode cX5_addCar 59 = .ok (.iaload, 1) := by decide +kernel
theorem dX5_addCar_60 : decode cX5_addCar 60 = .ok (.istore 4, 2) := by decide +kernel
theorem dX5_addCar_62 : decode cX5_addCar 62 = .ok (.aload_n 0, 1) := by decide +kernel
theorem dX5_addCar_63 : decode cX5_addCar 63 = .ok (.iload 4, 2) := by decide +kernel
theorem dX5_addCar_65 : decode cX5_addCar 65 = .ok (.iconst 0, 1) := by decide +kernel
theorem dX5_addCar_66 : decode cX5_addCar 66 = .ok (.iload_n 1, 1) := by decide +kernel
theorem dX5_addCar_67 : decode cX5_addCar 67 = .ok (.invokevirtual 92, 3) := by decide +kernel
theorem dX5_addCar_70 : decode cX5_addCar 70 = .ok (.aload_n 0, 1) := by decide +kernel
theorem dX5_addCar_71 : decode cX5_addCar 71 = .ok (.iload 4, 2) := by decide +kernel
theorem dX5_addCar_73 : decode cX5_addCar 73 = .ok (.iconst 1, 1) := by decide +kernel
theorem dX5_addCar_74 : decode cX5_addCar 74 = .ok (.iload_n 2, 1) := by decide +kernel
theorem dX5_addCar_75 : decode cX5_addCar 75 = .ok (.invokevirtual 92, 3) := by decide +kernel
theorem dX5_addCar_78 : decode cX5_addCar 78 = .ok (.aload_n 0, 1) := by decide +kernel
theorem dX5_addCar_79 : decode cX5_addCar 79 = .ok (.iload 4, 2) := by decide +kernel
theorem dX5_addCar_81 : decode cX5_addCar 81 = .ok (.iconst 2, 1) := by decide +kernel
theorem dX5_addCar_82 : decode cX5_addCar 82 = .ok (.iload_n 3, 1) := by decide +kernel
theorem dX5_addCar_83 : decode cX5_addCar 83 = .ok (.invokevirtual 92, 3) := by decide +kernel
theorem dX5_addCar_86 : decode cX5_addCar 86 = .ok (.aload_n 0, 1) := by decide +kernel
theorem dX5_addCar_87 : decode cX5_addCar 87 = .ok (.iload 4, 2) := by decide +kernel
theorem dX5_addCar_89 : decode cX5_addCar 89 = .ok (.iconst 3, 1) := by decide +kernel
theorem dX5_addCar_90 : decode cX5_addCar 90 = .ok (.iload_n 1, 1) := by decide +kernel
theorem dX5_addCar_91 : decode cX5_addCar 91 = .ok (.invokevirtual 92, 3) := by decide +kernel
theorem dX5_addCar_94 : decode cX5_addCar 94 = .ok (.aload_n 0, 1) := by decide +kernel
theorem dX5_addCar_95 : decode cX5_addCar 95 = .ok (.iload 4, 2) := by decide +kernel
theorem dX5_addCar_97 : decode cX5_addCar 97 = .ok (.iconst 4, 1) := by decide +kernel
theorem dX5_addCar_98 : decode cX5_addCar 98 = .ok (.iconst 0, 1) := by decide +kernel
theorem dX5_addCar_99 : decode cX5_addCar 99 = .ok (.invokevirtual 92, 3) := by decide +kernel
theorem dX5_addCar_102 : decode cX5_addCar 102 = .ok (.aload_n 0, 1) := by decide +kernel
theorem dX5_addCar_103 : decode cX5_addCar 103 = .ok (.iload 4, 2) := by decide +kernel
theorem dX5_addCar_105 : decode cX5_addCar 105 = .ok (.iconst 5, 1) := by decide +kernel
theorem dX5_addCar_106 : decode cX5_addCar 106 = .ok (.iconst 0, 1) := by decide +kernel
theorem dX5_addCar_107 : decode cX5_addCar 107 = .ok (.invokevirtual 92, 3) := by decide +kernel
theorem dX5_addCar_110 : decode cX5_addCar 110 = .ok (.aload_n 0, 1) := by decide +kernel
theorem dX5_addCar_111 : decode cX5_addCar 111 = .ok (.getfield 7, 3) := by decide +kernel
theorem dX5_addCar_114 : decode cX5_addCar 114 = .ok (.iconst 1, 1) := by decide +kernel
theorem dX5_addCar_115 : decode cX5_addCar 115 = .ok (.dup2, 1) := by decide +kernel
theorem dX5_addCar_116 : decode cX5_addCar 116 = .ok (.iaload, 1) := by decide +kernel
theorem dX5_addCar_117 : decode cX5_addCar 117 = .ok (.iconst 1, 1) := by decide +kernel
theorem dX5_addCar_118 : decode cX5_addCar 118 = .ok (.iadd, 1) := by decide +kernel
theorem dX5_addCar_119 : decode cX5_addCar 119 = .ok (.iastore, 1) := by decide +kernel
theorem dX5_addCar_120 : decode cX5_addCar 120 = .ok (.iload 4, 2) := by decide +kernel
theorem dX5_addCar_122 : decode cX5_addCar 122 = .ok (.ireturn, 1) := by decide +kernel
set_option maxRecDepth 20000 in
theorem ggX5_setAwake_X5_in : GoodIn wsX5_setAwake wsX5_in := goodIn_r _ [5] (by decide +kernel) (by decide +kernel)
set_option maxRecDepth 20000 in
theorem gX5_setAwake_X5_in : GoodIn wsX5_setAwake (va_wsS RX5 26 yX5_in wsX5_in) := goodIn_app (goodIn_of _ (by decide +kernel)) ggX5_setAwake_X5_in
set_option maxRecDepth 20000 in
theorem ggX5_setAwake_X5_acts : GoodIn wsX5_setAwake wsX5_acts := goodIn_r _ [9, 10, 11, 1, 12, 13, 14, 15, 16] (by decide +kernel) (by decide +kernel)
set_option maxRecDepth 20000 in
theorem gX5_setAwake_X5_acts : GoodIn wsX5_setAwake (wsV RX5 95 RX5 yX5_acts wsX5_acts) := goodIn_app (goodIn_of _ (by decide +kernel)) ggX5_setAwake_X5_acts
theorem dX5_setAwake_0 : decode cX5_setAwake 0 = .ok (.iload_n 1, 1) := by decide +kernel
theorem dX5_setAwake_1 : decode cX5_setAwake 1 = .ok (.iconst 0, 1) := by decide +kernel
theorem dX5_setAwake_2 : decode cX5_setAwake 2 = .ok (.bipush 23, 2) := by decide +kernel
theorem dX5_setAwake_4 : decode cX5_setAwake 4 = .ok (.invokestatic 26, 3) := by decide +kernel
theorem dX5_setAwake_7 : decode cX5_setAwake 7 = .ok (.ifCond .eq 12, 3) := by decide +kernel
theorem dX5_setAwake_10 : decode cX5_setAwake 10 = .ok (.iload_n 2, 1) := by decide +kernel
theorem dX5_setAwake_11 : decode cX5_setAwake 11 = .ok (.iconst 1, 1) := by decide +kernel
theorem dX5_setAwake_12 : decode cX5_setAwake 12 = .ok (.iconst 5, 1) := by decide +kernel
theorem dX5_setAwake_13 : decode cX5_setAwake 13 = .ok (.invokestatic 26, 3) := by decide +kernel
theorem dX5_setAwake_16 : decode cX5_setAwake 16 = .ok (.ifCond .ne 5, 3) := by decide +kernel
theorem dX5_setAwake_19 : decode cX5_setAwake 19 = .ok (.iconst (-1), 1) := by decide +kernel
theorem dX5_setAwake_20 : decode cX5_setAwake 20 = .ok (.ireturn, 1) := by decide +kernel
theorem dX5_setAwake_21 : decode cX5_setAwake 21 = .ok (.aload_n 0, 1) := by decide +kernel
theorem dX5_setAwake_22 : decode cX5_setAwake 22 = .ok (.invokevirtual 95, 3) := by decide +kernel
theorem dX5_setAwake_25 : decode cX5_setAwake 25 = .ok (.aload_n 0, 1) := by decide +kernel
theorem dX5_setAwake_26 : decode cX5_setAwake 26 = .ok (.getfield 7, 3) := by decide +kernel
theorem dX5_setAwake_29 : decode cX5_setAwake 29 = .ok (.iconst 4, 1) := by decide +kernel
theorem dX5_setAwake_30 : decode cX5_setAwake 30 = .ok (.iload_n 1, 1) := by decide +kernel
theorem dX5_setAwake_31 : decode cX5_setAwake 31 = .ok (.iadd, 1) := by decide +kernel
theorem dX5_setAwake_32 : decode cX5_setAwake 32 = .ok (.iaload, 1) := by decide +kernel
theorem dX5_setAwake_33 : decode cX5_setAwake 33 = .ok (.istore_n 3, 1) := by decide +kernel
theorem dX5_setAwake_34 : decode cX5_setAwake 34 = .ok (.aload_n 0, 1) := by decide +kernel
theorem dX5_setAwake_35 : decode cX5_setAwake 35 = .ok (.getfield 7, 3) := by decide +kernel
theorem dX5_setAwake_38 : decode cX5_setAwake 38 = .ok (.iconst 4, 1) := by decide +kernel
theorem dX5_setAwake_39 : decode cX5_setAwake 39 = .ok (.iload_n 1, 1) := by decide +kernel
theorem dX5_setAwake_40 : decode cX5_setAwake 40 = .ok (.iadd, 1) := by decide +kernel
theorem dX5_setAwake_41 : decode cX5_setAwake 41 = .ok (.iload_n 2, 1) := by decide +kernel
theorem dX5_setAwake_42 : decode cX5_setAwake 42 = .ok (.iastore, 1) := by decide +kernel
theorem dX5_setAwake_43 : decode cX5_setAwake 43 = .ok (.iload_n 3, 1) := by decide +kernel
theorem dX5_setAwake_44 : decode cX5_setAwake 44 = .ok (.ireturn, 1) := by decide +kernel
set_option maxRecDepth 20000 in
theorem ggX5_hold_X5_isCar : GoodIn wsX5_hold wsX5_isCar := goodIn_r _ [5, 6, 32, 33, 34, 35, 36] (by decide +kernel) (by decide +kernel)
set_option maxRecDepth 20000 in
theorem gX5_hold_X5_isCar : GoodIn wsX5_hold (wsV RX5 98 RX5 yX5_isCar wsX5_isCar) := goodIn_app (goodIn_of _ (by decide +kernel)) ggX5_hold_X5_isCar
set_option maxRecDepth 20000 in
theorem ggX5_hold_X5_in : GoodIn wsX5_hold wsX5_in := goodIn_r _ [9] (by decide +kernel) (by decide +kernel)
set_option maxRecDepth 20000 in
theorem gX5_hold_X5_in : GoodIn wsX5_hold (va_wsS RX5 26 yX5_in wsX5_in) := goodIn_app (goodIn_of _ (by decide +kernel)) ggX5_hold_X5_in
set_option maxRecDepth 20000 in
theorem ggX5_hold_X5_ofCar : GoodIn wsX5_hold wsX5_ofCar := goodIn_r _ [13, 6, 32, 33, 34, 35, 36] (by decide +kernel) (by decide +kernel)
set_option maxRecDepth 20000 in
theorem gX5_hold_X5_ofCar : GoodIn wsX5_hold (wsV RX5 38 RX5 yX5_ofCar wsX5_ofCar) := goodIn_app (goodIn_of _ (by decide +kernel)) ggX5_hold_X5_ofCar
set_option maxRecDepth 20000 in
theorem ggX5_hold_X5_acts : GoodIn wsX5_hold wsX5_acts := goodIn_r _ [17, 18, 19, 6, 32, 33, 34, 35, 36] (by decide +kernel) (by decide +kernel)
set_option maxRecDepth 20000 in
theorem gX5_hold_X5_acts : GoodIn wsX5_hold (wsV RX5 95 RX5 yX5_acts wsX5_acts) := goodIn_app (goodIn_of _ (by decide +kernel)) ggX5_hold_X5_acts
set_option maxRecDepth 20000 in
theorem ggX5_hold_X5_putsCar : GoodIn wsX5_hold wsX5_putsCar := goodIn_r _ [23, 6, 32, 33, 34, 35, 36] (by decide +kernel) (by decide +kernel)
set_option maxRecDepth 20000 in
theorem gX5_hold_X5_putsCar : GoodIn wsX5_hold (wsV RX5 92 RX5 yX5_putsCar wsX5_putsCar) := goodIn_app (goodIn_of _ (by decide +kernel)) ggX5_hold_X5_putsCar
set_option maxRecDepth 20000 in
theorem ggX5_hold_X5_many : GoodIn wsX5_hold wsX5_many := goodIn_r _ [27, 6, 28, 29, 30, 4, 31, 32, 33, 34, 35, 36] (by decide +kernel) (by decide +kernel)
set_option maxRecDepth 20000 in
theorem gX5_hold_X5_many : GoodIn wsX5_hold (wsV RX5 55 RX5 yX5_many wsX5_many) := goodIn_app (goodIn_of _ (by decide +kernel)) ggX5_hold_X5_many
theorem dX5_hold_0 : decode cX5_hold 0 = .ok (.aload_n 0, 1) := by decide +kernel
theorem dX5_hold_1 : decode cX5_hold 1 = .ok (.iload_n 1, 1) := by decide +kernel
theorem dX5_hold_2 : decode cX5_hold 2 = .ok (.invokevirtual 98, 3) := by decide +kernel
theorem dX5_hold_5 : decode cX5_hold 5 = .ok (.ifCond .eq 12, 3) := by decide +kernel
theorem dX5_hold_8 : decode cX5_hold 8 = .ok (.iload_n 2, 1) := by decide +kernel
theorem dX5_hold_9 : decode cX5_hold 9 = .ok (.iconst 0, 1) := by decide +kernel
theorem dX5_hold_10 : decode cX5_hold 10 = .ok (.iconst 1, 1) := by decide +kernel
theorem dX5_hold_11 : decode cX5_hold 11 = .ok (.invokestatic 26, 3) := by decide +kernel
theorem dX5_hold_14 : decode cX5_hold 14 = .ok (.ifCond .ne 5, 3) := by decide +kernel
theorem dX5_hold_17 : decode cX5_hold 17 = .ok (.iconst (-1), 1) := by decide +kernel
theorem dX5_hold_18 : decode cX5_hold 18 = .ok (.ireturn, 1) := by decide +kernel
theorem dX5_hold_19 : decode cX5_hold 19 = .ok (.aload_n 0, 1) := by decide +kernel
theorem dX5_hold_20 : decode cX5_hold 20 = .ok (.iload_n 1, 1) := by decide +kernel
theorem dX5_hold_21 : decode cX5_hold 21 = .ok (.iconst 4, 1) := by decide +kernel
theorem dX5_hold_22 : decode cX5_hold 22 = .ok (.invokevirtual 38, 3) := by decide +kernel
theorem dX5_hold_25 : decode cX5_hold 25 = .ok (.iconst 2, 1) := by decide +kernel
theorem dX5_hold_26 : decode cX5_hold 26 = .ok (.if_icmp .eq 13, 3) := by decide +kernel
theorem dX5_hold_29 : decode cX5_hold 29 = .ok (.aload_n 0, 1) := by decide +kernel
theorem dX5_hold_30 : decode cX5_hold 30 = .ok (.iload_n 1, 1) := by decide +kernel
theorem dX5_hold_31 : decode cX5_hold 31 = .ok (.iconst 4, 1) := by decide +kernel
theorem dX5_hold_32 : decode cX5_hold 32 = .ok (.invokevirtual 38, 3) := by decide +kernel
theorem dX5_hold_35 : decode cX5_hold 35 = .ok (.iload_n 2, 1) := by decide +kernel
theorem dX5_hold_36 : decode cX5_hold 36 = .ok (.if_icmp .ne 6, 3) := by decide +kernel
theorem dX5_hold_39 : decode cX5_hold 39 = .ok (.bipush (-2), 2) := by decide +kernel
theorem dX5_hold_41 : decode cX5_hold 41 = .ok (.ireturn, 1) := by decide +kernel
theorem dX5_hold_42 : decode cX5_hold 42 = .ok (.aload_n 0, 1) := by decide +kernel
theorem dX5_hold_43 : decode cX5_hold 43 = .ok (.invokevirtual 95, 3) := by decide +kernel
theorem dX5_hold_46 : decode cX5_hold 46 = .ok (.aload_n 0, 1) := by decide +kernel
theorem dX5_hold_47 : decode cX5_hold 47 = .ok (.iload_n 1, 1) := by decide +kernel
theorem dX5_hold_48 : decode cX5_hold 48 = .ok (.iconst 4, 1) := by decide +kernel
theorem dX5_hold_49 : decode cX5_hold 49 = .ok (.iload_n 2, 1) := by decide +kernel
theorem dX5_hold_50 : decode cX5_hold 50 = .ok (.iconst 1, 1) := by decide +kernel
theorem dX5_hold_51 : decode cX5_hold 51 = .ok (.if_icmp .ne 7, 3) := by decide +kernel
theorem dX5_hold_54 : decode cX5_hold 54 = .ok (.iconst 1, 1) := by decide +kernel
theorem dX5_hold_55 : decode cX5_hold 55 = .ok (.goto 4, 3) := by decide +kernel
theorem dX5_hold_58 : decode cX5_hold 58 = .ok (.iconst 0, 1) := by decide +kernel
theorem dX5_hold_59 : decode cX5_hold 59 = .ok (.invokevirtual 92, 3) := by decide +kernel
theorem dX5_hold_62 : decode cX5_hold 62 = .ok (.aload_n 0, 1) := by decide +kernel
theorem dX5_hold_63 : decode cX5_hold 63 = .ok (.iload_n 1, 1) := by decide +kernel
theorem dX5_hold_64 : decode cX5_hold 64 = .ok (.iconst 1, 1) := by decide +kernel
theorem dX5_hold_65 : decode cX5_hold 65 = .ok (.invokevirtual 55, 3) := by decide +kernel
theorem dX5_hold_68 : decode cX5_hold 68 = .ok (.aload_n 0, 1) := by decide +kernel
theorem dX5_hold_69 : decode cX5_hold 69 = .ok (.iload_n 1, 1) := by decide +kernel
theorem dX5_hold_70 : decode cX5_hold 70 = .ok (.iconst 2, 1) := by decide +kernel
theorem dX5_hold_71 : decode cX5_hold 71 = .ok (.invokevirtual 55, 3) := by decide +kernel
theorem dX5_hold_74 : decode cX5_hold 74 = .ok (.iadd, 1) := by decide +kernel
theorem dX5_hold_75 : decode cX5_hold 75 = .ok (.ireturn, 1) := by decide +kernel
set_option maxRecDepth 20000 in
theorem ggX5_fail_X5_isCar : GoodIn wsX5_fail wsX5_isCar := goodIn_r _ [5, 6, 44, 45, 46, 47, 48] (by decide +kernel) (by decide +kernel)
set_option maxRecDepth 20000 in
theorem gX5_fail_X5_isCar : GoodIn wsX5_fail (wsV RX5 98 RX5 yX5_isCar wsX5_isCar) := goodIn_app (goodIn_of _ (by decide +kernel)) ggX5_fail_X5_isCar
set_option maxRecDepth 20000 in
theorem ggX5_fail_X5_ofCar : GoodIn wsX5_fail wsX5_ofCar := goodIn_r _ [10, 6, 44, 45, 46, 47, 48] (by decide +kernel) (by decide +kernel)
set_option maxRecDepth 20000 in
theorem gX5_fail_X5_ofCar : GoodIn wsX5_fail (wsV RX5 38 RX5 yX5_ofCar wsX5_ofCar) := goodIn_app (goodIn_of _ (by decide +kernel)) ggX5_fail_X5_ofCar
set_option maxRecDepth 20000 in
theorem ggX5_fail_X5_acts : GoodIn wsX5_fail wsX5_acts := goodIn_r _ [14, 15, 16, 6, 44, 45, 46, 47, 48] (by decide +kernel) (by decide +kernel)
set_option maxRecDepth 20000 in
theorem gX5_fail_X5_acts : GoodIn wsX5_fail (wsV RX5 95 RX5 yX5_acts wsX5_acts) := goodIn_app (goodIn_of _ (by decide +kernel)) ggX5_fail_X5_acts
set_option maxRecDepth 20000 in
theorem ggX5_fail_X5_fails : GoodIn wsX5_fail wsX5_fails := goodIn_r _ [20, 6, 21, 22, 23, 4, 24, 25, 26, 27, 28, 29, 30, 31, 7, 8, 9, 10, 32, 33, 34, 35, 36, 37, 38, 39, 44, 45, 46, 47, 48] (by decide +kernel) (by decide +kernel)
set_option maxRecDepth 20000 in
theorem gX5_fail_X5_fails : GoodIn wsX5_fail (wsV RX5 101 RX5 yX5_fails wsX5_fails) := goodIn_app (goodIn_of _ (by decide +kernel)) ggX5_fail_X5_fails
set_option maxRecDepth 20000 in
theorem ggX5_fail_X5_inAll : GoodIn wsX5_fail wsX5_inAll := goodIn_r _ [43, 6, 21, 22, 23, 4, 24, 44, 45, 46, 47, 48] (by decide +kernel) (by decide +kernel)
set_option maxRecDepth 20000 in
theorem gX5_fail_X5_inAll : GoodIn wsX5_fail (wsV RX5 104 RX5 yX5_inAll wsX5_inAll) := goodIn_app (goodIn_of _ (by decide +kernel)) ggX5_fail_X5_inAll
theorem dX5_fail_0 : decode cX5_fail 0 = .ok (.aload_n 0, 1) := by decide +kernel
theorem dX5_fail_1 : decode cX5_fail 1 = .ok (.iload_n 1, 1) := by decide +kernel
theorem dX5_fail_2 : decode cX5_fail 2 = .ok (.invokevirtual 98, 3) := by decide +kernel
theorem dX5_fail_5 : decode cX5_fail 5 = .ok (.ifCond .ne 5, 3) := by decide +kernel
theorem dX5_fail_8 : decode cX5_fail 8 = .ok (.iconst (-1), 1) := by decide +kernel
theorem dX5_fail_9 : decode cX5_fail 9 = .ok (.ireturn, 1) := by decide +kernel
theorem dX5_fail_10 : decode cX5_fail 10 = .ok (.aload_n 0, 1) := by decide +kernel
theorem dX5_fail_11 : decode cX5_fail 11 = .ok (.iload_n 1, 1) := by decide +kernel
theorem dX5_fail_12 : decode cX5_fail 12 = .ok (.iconst 4, 1) := by decide +kernel
theorem dX5_fail_13 : decode cX5_fail 13 = .ok (.invokevirtual 38, 3) := by decide +kernel
theorem dX5_fail_16 : decode cX5_fail 16 = .ok (.iconst 2, 1) := by decide +kernel
theorem dX5_fail_17 : decode cX5_fail 17 = .ok (.if_icmp .ne 6, 3) := by decide +kernel
theorem dX5_fail_20 : decode cX5_fail 20 = .ok (.bipush (-2), 2) := by decide +kernel
theorem dX5_fail_22 : decode cX5_fail 22 = .ok (.ireturn, 1) := by decide +kernel
theorem dX5_fail_23 : decode cX5_fail 23 = .ok (.aload_n 0, 1) := by decide +kernel
theorem dX5_fail_24 : decode cX5_fail 24 = .ok (.invokevirtual 95, 3) := by decide +kernel
theorem dX5_fail_27 : decode cX5_fail 27 = .ok (.aload_n 0, 1) := by decide +kernel
theorem dX5_fail_28 : decode cX5_fail 28 = .ok (.iload_n 1, 1) := by decide +kernel
theorem dX5_fail_29 : decode cX5_fail 29 = .ok (.invokevirtual 101, 3) := by decide +kernel
theorem dX5_fail_32 : decode cX5_fail 32 = .ok (.aload_n 0, 1) := by decide +kernel
theorem dX5_fail_33 : decode cX5_fail 33 = .ok (.iconst 0, 1) := by decide +kernel
theorem dX5_fail_34 : decode cX5_fail 34 = .ok (.invokevirtual 104, 3) := by decide +kernel
theorem dX5_fail_37 : decode cX5_fail 37 = .ok (.ireturn, 1) := by decide +kernel
set_option maxRecDepth 20000 in
theorem ggX5_repair_X5_isCar : GoodIn wsX5_repair wsX5_isCar := goodIn_r _ [5, 6, 21, 22, 23, 24, 25] (by decide +kernel) (by decide +kernel)
set_option maxRecDepth 20000 in
theorem gX5_repair_X5_isCar : GoodIn wsX5_repair (wsV RX5 98 RX5 yX5_isCar wsX5_isCar) := goodIn_app (goodIn_of _ (by decide +kernel)) ggX5_repair_X5_isCar
set_option maxRecDepth 20000 in
theorem ggX5_repair_X5_ofCar : GoodIn wsX5_repair wsX5_ofCar := goodIn_r _ [10, 6, 21, 22, 23, 24, 25] (by decide +kernel) (by decide +kernel)
set_option maxRecDepth 20000 in
theorem gX5_repair_X5_ofCar : GoodIn wsX5_repair (wsV RX5 38 RX5 yX5_ofCar wsX5_ofCar) := goodIn_app (goodIn_of _ (by decide +kernel)) ggX5_repair_X5_ofCar
set_option maxRecDepth 20000 in
theorem ggX5_repair_X5_acts : GoodIn wsX5_repair wsX5_acts := goodIn_r _ [14, 15, 16, 6, 21, 22, 23, 24, 25] (by decide +kernel) (by decide +kernel)
set_option maxRecDepth 20000 in
theorem gX5_repair_X5_acts : GoodIn wsX5_repair (wsV RX5 95 RX5 yX5_acts wsX5_acts) := goodIn_app (goodIn_of _ (by decide +kernel)) ggX5_repair_X5_acts
set_option maxRecDepth 20000 in
theorem ggX5_repair_X5_putsCar : GoodIn wsX5_repair wsX5_putsCar := goodIn_r _ [20, 6, 21, 22, 23, 24, 25] (by decide +kernel) (by decide +kernel)
set_option maxRecDepth 20000 in
theorem gX5_repair_X5_putsCar : GoodIn wsX5_repair (wsV RX5 92 RX5 yX5_putsCar wsX5_putsCar) := goodIn_app (goodIn_of _ (by decide +kernel)) ggX5_repair_X5_putsCar
theorem dX5_repair_0 : decode cX5_repair 0 = .ok (.aload_n 0, 1) := by decide +kernel
theorem dX5_repair_1 : decode cX5_repair 1 = .ok (.iload_n 1, 1) := by decide +kernel
theorem dX5_repair_2 : decode cX5_repair 2 = .ok (.invokevirtual 98, 3) := by decide +kernel
theorem dX5_repair_5 : decode cX5_repair 5 = .ok (.ifCond .ne 5, 3) := by decide +kernel
theorem dX5_repair_8 : decode cX5_repair 8 = .ok (.iconst (-1), 1) := by decide +kernel
theorem dX5_repair_9 : decode cX5_repair 9 = .ok (.ireturn, 1) := by decide +kernel
theorem dX5_repair_10 : decode cX5_repair 10 = .ok (.aload_n 0, 1) := by decide +kernel
theorem dX5_repair_11 : decode cX5_repair 11 = .ok (.iload_n 1, 1) := by decide +kernel
theorem dX5_repair_12 : decode cX5_repair 12 = .ok (.iconst 4, 1) := by decide +kernel
theorem dX5_repair_13 : decode cX5_repair 13 = .ok (.invokevirtual 38, 3) := by decide +kernel
theorem dX5_repair_16 : decode cX5_repair 16 = .ok (.iconst 2, 1) := by decide +kernel
theorem dX5_repair_17 : decode cX5_repair 17 = .ok (.if_icmp .eq 6, 3) := by decide +kernel
theorem dX5_repair_20 : decode cX5_repair 20 = .ok (.bipush (-2), 2) := by decide +kernel
theorem dX5_repair_22 : decode cX5_repair 22 = .ok (.ireturn, 1) := by decide +kernel
theorem dX5_repair_23 : decode cX5_repair 23 = .ok (.aload_n 0, 1) := by decide +kernel
theorem dX5_repair_24 : decode cX5_repair 24 = .ok (.invokevirtual 95, 3) := by decide +kernel
theorem dX5_repair_27 : decode cX5_repair 27 = .ok (.aload_n 0, 1) := by decide +kernel
theorem dX5_repair_28 : decode cX5_repair 28 = .ok (.iload_n 1, 1) := by decide +kernel
theorem dX5_repair_29 : decode cX5_repair 29 = .ok (.iconst 4, 1) := by decide +kernel
theorem dX5_repair_30 : decode cX5_repair 30 = .ok (.iconst 0, 1) := by decide +kernel
theorem dX5_repair_31 : decode cX5_repair 31 = .ok (.invokevirtual 92, 3) := by decide +kernel
theorem dX5_repair_34 : decode cX5_repair 34 = .ok (.aload_n 0, 1) := by decide +kernel
theorem dX5_repair_35 : decode cX5_repair 35 = .ok (.iload_n 1, 1) := by decide +kernel
theorem dX5_repair_36 : decode cX5_repair 36 = .ok (.iconst 3, 1) := by decide +kernel
theorem dX5_repair_37 : decode cX5_repair 37 = .ok (.invokevirtual 38, 3) := by decide +kernel
theorem dX5_repair_40 : decode cX5_repair 40 = .ok (.ireturn, 1) := by decide +kernel
set_option maxRecDepth 20000 in
theorem ggX5_isWay_X5_isFloor : GoodIn wsX5_isWay wsX5_isFloor := goodIn_r _ [4, 5, 6, 3, 7] (by decide +kernel) (by decide +kernel)
set_option maxRecDepth 20000 in
theorem gX5_isWay_X5_isFloor : GoodIn wsX5_isWay (va_wsS RX5 107 yX5_isFloor wsX5_isFloor) := goodIn_app (goodIn_of _ (by decide +kernel)) ggX5_isWay_X5_isFloor
theorem dX5_isWay_0 : decode cX5_isWay 0 = .ok (.iload_n 0, 1) := by decide +kernel
theorem dX5_isWay_1 : decode cX5_isWay 1 = .ok (.invokestatic 107, 3) := by decide +kernel
theorem dX5_isWay_4 : decode cX5_isWay 4 = .ok (.ifCond .eq 19, 3) := by decide +kernel
theorem dX5_isWay_7 : decode cX5_isWay 7 = .ok (.iload_n 1, 1) := by decide +kernel
theorem dX5_isWay_8 : decode cX5_isWay 8 = .ok (.invokestatic 107, 3) := by decide +kernel
theorem dX5_isWay_11 : decode cX5_isWay 11 = .ok (.ifCond .eq 12, 3) := by decide +kernel
theorem dX5_isWay_14 : decode cX5_isWay 14 = .ok (.iload_n 0, 1) := by decide +kernel
theorem dX5_isWay_15 : decode cX5_isWay 15 = .ok (.iload_n 1, 1) := by decide +kernel
theorem dX5_isWay_16 : decode cX5_isWay 16 = .ok (.if_icmp .eq 7, 3) := by decide +kernel
theorem dX5_isWay_19 : decode cX5_isWay 19 = .ok (.iconst 1, 1) := by decide +kernel
theorem dX5_isWay_20 : decode cX5_isWay 20 = .ok (.goto 4, 3) := by decide +kernel
theorem dX5_isWay_23 : decode cX5_isWay 23 = .ok (.iconst 0, 1) := by decide +kernel
theorem dX5_isWay_24 : decode cX5_isWay 24 = .ok (.ireturn, 1) := by decide +kernel
set_option maxRecDepth 20000 in
theorem ggX5_call_X5_isWay : GoodIn wsX5_call wsX5_isWay := goodIn_r _ [5, 6, 7, 4, 8, 9, 10, 11] (by decide +kernel) (by decide +kernel)
set_option maxRecDepth 20000 in
theorem gX5_call_X5_isWay : GoodIn wsX5_call (va_wsS RX5 110 yX5_isWay wsX5_isWay) := goodIn_app (goodIn_of _ (by decide +kernel)) ggX5_call_X5_isWay
set_option maxRecDepth 20000 in
theorem ggX5_call_X5_acts : GoodIn wsX5_call wsX5_acts := goodIn_r _ [15, 16, 17, 1, 68, 69, 70, 71, 72] (by decide +kernel) (by decide +kernel)
set_option maxRecDepth 20000 in
theorem gX5_call_X5_acts : GoodIn wsX5_call (wsV RX5 95 RX5 yX5_acts wsX5_acts) := goodIn_app (goodIn_of _ (by decide +kernel)) ggX5_call_X5_acts
set_option maxRecDepth 20000 in
theorem ggX5_call_X5_puts : GoodIn wsX5_call wsX5_puts := goodIn_r _ [21, 1, 68, 69, 70, 71, 72] (by decide +kernel) (by decide +kernel)
set_option maxRecDepth 20000 in
theorem gX5_call_X5_puts : GoodIn wsX5_call (wsV RX5 68 RX5 yX5_puts wsX5_puts) := goodIn_app (goodIn_of _ (by decide +kernel)) ggX5_call_X5_puts
set_option maxRecDepth 20000 in
theorem ggX5_call_X5_gives : GoodIn wsX5_call wsX5_gives := goodIn_r _ [25, 26, 27, 28, 4, 29, 1, 30, 31, 32, 33, 34, 35, 36, 37, 38, 39, 40, 41, 42, 43, 44, 45, 46, 47, 48, 49, 9, 10, 11, 50, 51, 52, 53, 54, 55, 56, 57, 58, 59, 60, 61, 62, 63, 64, 65, 66, 67, 18, 19, 20, 21, 68, 69, 70, 71, 72] (by decide +kernel) (by decide +kernel)
set_option maxRecDepth 20000 in
theorem gX5_call_X5_gives : GoodIn wsX5_call (wsV RX5 79 RX5 yX5_gives wsX5_gives) := goodIn_app (goodIn_of _ (by decide +kernel)) ggX5_call_X5_gives
theorem dX5_call_0 : decode cX5_call 0 = .ok (.iload_n 1, 1) := by decide +kernel
theorem dX5_call_1 : decode cX5_call 1 = .ok (.iload_n 2, 1) := by decide +kernel
theorem dX5_call_2 : decode cX5_call 2 = .ok (.invokestatic 110, 3) := by decide +kernel
theorem dX5_call_5 : decode cX5_call 5 = .ok (.ifCond .ne 5, 3) := by decide +kernel
theorem dX5_call_8 : decode cX5_call 8 = .ok (.iconst (-1), 1) := by decide +kernel
theorem dX5_call_9 : decode cX5_call 9 = .ok (.ireturn, 1) := by decide +kernel
theorem dX5_call_10 : decode cX5_call 10 = .ok (.aload_n 0, 1) := by decide +kernel
theorem dX5_call_11 : decode cX5_call 11 = .ok (.getfield 7, 3) := by decide +kernel
theorem dX5_call_14 : decode cX5_call 14 = .ok (.iconst 2, 1) := by decide +kernel
theorem dX5_call_15 : decode cX5_call 15 = .ok (.iaload, 1) := by decide +kernel
theorem dX5_call_16 : decode cX5_call 16 = .ok (.bipush 40, 2) := by decide +kernel
theorem dX5_call_18 : decode cX5_call 18 = .ok (.if_icmp .ne 6, 3) := by decide +kernel
theorem dX5_call_21 : decode cX5_call 21 = .ok (.bipush (-3), 2) := by decide +kernel
theorem dX5_call_23 : decode cX5_call 23 = .ok (.ireturn, 1) := by decide +kernel
theorem dX5_call_24 : decode cX5_call 24 = .ok (.aload_n 0, 1) := by decide +kernel
theorem dX5_call_25 : decode cX5_call 25 = .ok (.invokevirtual 95, 3) := by decide +kernel
theorem dX5_call_28 : decode cX5_call 28 = .ok (.aload_n 0, 1) := by decide +kernel
theorem dX5_call_29 : decode cX5_call 29 = .ok (.getfield 7, 3) := by decide +kernel
theorem dX5_call_32 : decode cX5_call 32 = .ok (.iconst 2, 1) := by decide +kernel
theorem dX5_call_33 : decode cX5_call 33 = .ok (.iaload, 1) := by decide +kernel
theorem dX5_call_34 : decode cX5_call 34 = .ok (.istore_n 3, 1) := by decide +kernel
theorem dX5_call_35 : decode cX5_call 35 = .ok (.aload_n 0, 1) := by decide +kernel
theorem dX5_call_36 : decode cX5_call 36 = .ok (.iload_n 3, 1) := by decide +kernel
theorem dX5_call_37 : decode cX5_call 37 = .ok (.iconst 0, 1) := by decide +kernel
theorem dX5_call_38 : decode cX5_call 38 = .ok (.iload_n 1, 1) := by decide +kernel
theorem dX5_call_39 : decode cX5_call 39 = .ok (.invokevirtual 68, 3) := by decide +kernel
theorem dX5_call_42 : decode cX5_call 42 = .ok (.aload_n 0, 1) := by decide +kernel
theorem dX5_call_43 : decode cX5_call 43 = .ok (.iload_n 3, 1) := by decide +kernel
theorem dX5_call_44 : decode cX5_call 44 = .ok (.iconst 1, 1) := by decide +kernel
theorem dX5_call_45 : decode cX5_call 45 = .ok (.iload_n 2, 1) := by decide +kernel
theorem dX5_call_46 : decode cX5_call 46 = .ok (.invokevirtual 68, 3) := by decide +kernel
theorem dX5_call_49 : decode cX5_call 49 = .ok (.aload_n 0, 1) := by decide +kernel
theorem dX5_call_50 : decode cX5_call 50 = .ok (.iload_n 3, 1) := by decide +kernel
theorem dX5_call_51 : decode cX5_call 51 = .ok (.iconst 2, 1) := by decide +kernel
theorem dX5_call_52 : decode cX5_call 52 = .ok (.iconst 0, 1) := by decide +kernel
theorem dX5_call_53 : decode cX5_call 53 = .ok (.invokevirtual 68, 3) := by decide +kernel
theorem dX5_call_56 : decode cX5_call 56 = .ok (.aload_n 0, 1) := by decide +kernel
theorem dX5_call_57 : decode cX5_call 57 = .ok (.iload_n 3, 1) := by decide +kernel
theorem dX5_call_58 : decode cX5_call 58 = .ok (.iconst 3, 1) := by decide +kernel
theorem dX5_call_59 : decode cX5_call 59 = .ok (.bipush (-9), 2) := by decide +kernel
theorem dX5_call_61 : decode cX5_call 61 = .ok (.invokevirtual 68, 3) := by decide +kernel
theorem dX5_call_64 : decode cX5_call 64 = .ok (.aload_n 0, 1) := by decide +kernel
theorem dX5_call_65 : decode cX5_call 65 = .ok (.iload_n 3, 1) := by decide +kernel
theorem dX5_call_66 : decode cX5_call 66 = .ok (.iconst 4, 1) := by decide +kernel
theorem dX5_call_67 : decode cX5_call 67 = .ok (.aload_n 0, 1) := by decide +kernel
theorem dX5_call_68 : decode cX5_call 68 = .ok (.getfield 7, 3) := by decide +kernel
theorem dX5_call_71 : decode cX5_call 71 = .ok (.iconst 0, 1) := by decide +kernel
theorem dX5_call_72 : decode cX5_call 72 = .ok (.iaload, 1) := by decide +kernel
theorem dX5_call_73 : decode cX5_call 73 = .ok (.invokevirtual 68, 3) := by decide +kernel
theorem dX5_call_76 : decode cX5_call 76 = .ok (.aload_n 0, 1) := by decide +kernel
theorem dX5_call_77 : decode cX5_call 77 = .ok (.iload_n 3, 1) := by decide +kernel
theorem dX5_call_78 : decode cX5_call 78 = .ok (.iconst 5, 1) := by decide +kernel
theorem dX5_call_79 : decode cX5_call 79 = .ok (.bipush (-9), 2) := by decide +kernel
theorem dX5_call_81 : decode cX5_call 81 = .ok (.invokevirtual 68, 3) := by decide +kernel
theorem dX5_call_84 : decode cX5_call 84 = .ok (.aload_n 0, 1) := by decide +kernel
theorem dX5_call_85 : decode cX5_call 85 = .ok (.iload_n 3, 1) := by decide +kernel
theorem dX5_call_86 : decode cX5_call 86 = .ok (.bipush 6, 2) := by decide +kernel
theorem dX5_call_88 : decode cX5_call 88 = .ok (.bipush (-9), 2) := by decide +kernel
theorem dX5_call_90 : decode cX5_call 90 = .ok (.invokevirtual 68, 3) := by decide +kernel
theorem dX5_call_93 : decode cX5_call 93 = .ok (.aload_n 0, 1) := by decide +kernel
theorem dX5_call_94 : decode cX5_call 94 = .ok (.iload_n 3, 1) := by decide +kernel
theorem dX5_call_95 : decode cX5_call 95 = .ok (.bipush 7, 2) := by decide +kernel
theorem dX5_call_97 : decode cX5_call 97 = .ok (.iconst 0, 1) := by decide +kernel
theorem dX5_call_98 : decode cX5_call 98 = .ok (.invokevirtual 68, 3) := by decide +kernel
theorem dX5_call_101 : decode cX5_call 101 = .ok (.aload_n 0, 1) := by decide +kernel
theorem dX5_call_102 : decode cX5_call 102 = .ok (.getfield 7, 3) := by decide +kernel
theorem dX5_call_105 : decode cX5_call 105 = .ok (.iconst 2, 1) := by decide +kernel
theorem dX5_call_106 : decode cX5_call 106 = .ok (.dup2, 1) := by decide +kernel
theorem dX5_call_107 : decode cX5_call 107 = .ok (.iaload, 1) := by decide +kernel
theorem dX5_call_108 : decode cX5_call 108 = .ok (.iconst 1, 1) := by decide +kernel
theorem dX5_call_109 : decode cX5_call 109 = .ok (.iadd, 1) := by decide +kernel
theorem dX5_call_110 : decode cX5_call 110 = .ok (.iastore, 1) := by decide +kernel
theorem dX5_call_111 : decode cX5_call 111 = .ok (.aload_n 0, 1) := by decide +kernel
theorem dX5_call_112 : decode cX5_call 112 = .ok (.iload_n 3, 1) := by decide +kernel
theorem dX5_call_113 : decode cX5_call 113 = .ok (.invokevirtual 79, 3) := by decide +kernel
theorem dX5_call_116 : decode cX5_call 116 = .ok (.iload_n 3, 1) := by decide +kernel
theorem dX5_call_117 : decode cX5_call 117 = .ok (.ireturn, 1) := by decide +kernel
set_option maxRecDepth 20000 in
theorem ggX5_pass_X5_in : GoodIn wsX5_pass wsX5_in := goodIn_r _ [5] (by decide +kernel) (by decide +kernel)
set_option maxRecDepth 20000 in
theorem gX5_pass_X5_in : GoodIn wsX5_pass (va_wsS RX5 26 yX5_in wsX5_in) := goodIn_app (goodIn_of _ (by decide +kernel)) ggX5_pass_X5_in
set_option maxRecDepth 20000 in
theorem ggX5_pass_X5_acts : GoodIn wsX5_pass wsX5_acts := goodIn_r _ [9, 10, 11, 1, 94, 95, 96, 97, 98] (by decide +kernel) (by decide +kernel)
set_option maxRecDepth 20000 in
theorem gX5_pass_X5_acts : GoodIn wsX5_pass (wsV RX5 95 RX5 yX5_acts wsX5_acts) := goodIn_app (goodIn_of _ (by decide +kernel)) ggX5_pass_X5_acts
set_option maxRecDepth 20000 in
theorem ggX5_pass_X5_ticks : GoodIn wsX5_pass wsX5_ticks := goodIn_r _ [15, 1, 16, 17, 18, 4, 19, 20, 21, 22, 23, 24, 25, 26, 27, 28, 29, 30, 31, 32, 33, 34, 35, 36, 37, 38, 39, 40, 41, 42, 43, 2, 3, 5, 44, 45, 46, 47, 48, 49, 50, 51, 52, 53, 54, 55, 56, 57, 58, 59, 60, 61, 62, 63, 64, 65, 66, 67, 68, 69, 70, 71, 72, 73, 74, 75, 76, 77, 78, 79, 80, 81, 82, 83, 84, 85, 86, 87, 88, 89, 94, 95, 96, 97, 98] (by decide +kernel) (by decide +kernel)
set_option maxRecDepth 20000 in
theorem gX5_pass_X5_ticks : GoodIn wsX5_pass (wsV RX5 113 RX5 yX5_ticks wsX5_ticks) := goodIn_app (goodIn_of _ (by decide +kernel)) ggX5_pass_X5_ticks
set_option maxRecDepth 20000 in
theorem ggX5_pass_X5_inAll : GoodIn wsX5_pass wsX5_inAll := goodIn_r _ [93, 1, 16, 17, 18, 4, 19, 94, 95, 96, 97, 98] (by decide +kernel) (by decide +kernel)
set_option maxRecDepth 20000 in
theorem gX5_pass_X5_inAll : GoodIn wsX5_pass (wsV RX5 104 RX5 yX5_inAll wsX5_inAll) := goodIn_app (goodIn_of _ (by decide +kernel)) ggX5_pass_X5_inAll
theorem dX5_pass_0 : decode cX5_pass 0 = .ok (.iload_n 1, 1) := by decide +kernel
theorem dX5_pass_1 : decode cX5_pass 1 = .ok (.iconst 1, 1) := by decide +kernel
theorem dX5_pass_2 : decode cX5_pass 2 = .ok (.sipush 200, 3) := by decide +kernel
theorem dX5_pass_5 : decode cX5_pass 5 = .ok (.invokestatic 26, 3) := by decide +kernel
theorem dX5_pass_8 : decode cX5_pass 8 = .ok (.ifCond .ne 5, 3) := by decide +kernel
theorem dX5_pass_11 : decode cX5_pass 11 = .ok (.iconst (-1), 1) := by decide +kernel
theorem dX5_pass_12 : decode cX5_pass 12 = .ok (.ireturn, 1) := by decide +kernel
theorem dX5_pass_13 : decode cX5_pass 13 = .ok (.aload_n 0, 1) := by decide +kernel
theorem dX5_pass_14 : decode cX5_pass 14 = .ok (.getfield 7, 3) := by decide +kernel
theorem dX5_pass_17 : decode cX5_pass 17 = .ok (.iconst 0, 1) := by decide +kernel
theorem dX5_pass_18 : decode cX5_pass 18 = .ok (.iaload, 1) := by decide +kernel
theorem dX5_pass_19 : decode cX5_pass 19 = .ok (.iload_n 1, 1) := by decide +kernel
theorem dX5_pass_20 : decode cX5_pass 20 = .ok (.iadd, 1) := by decide +kernel
theorem dX5_pass_21 : decode cX5_pass 21 = .ok (.sipush 20000, 3) := by decide +kernel
theorem dX5_pass_24 : decode cX5_pass 24 = .ok (.if_icmp .le 6, 3) := by decide +kernel
theorem dX5_pass_27 : decode cX5_pass 27 = .ok (.bipush (-2), 2) := by decide +kernel
theorem dX5_pass_29 : decode cX5_pass 29 = .ok (.ireturn, 1) := by decide +kernel
theorem dX5_pass_30 : decode cX5_pass 30 = .ok (.aload_n 0, 1) := by decide +kernel
theorem dX5_pass_31 : decode cX5_pass 31 = .ok (.invokevirtual 95, 3) := by decide +kernel
theorem dX5_pass_34 : decode cX5_pass 34 = .ok (.iconst 0, 1) := by decide +kernel
theorem dX5_pass_35 : decode cX5_pass 35 = .ok (.istore_n 2, 1) := by decide +kernel
theorem dX5_pass_36 : decode cX5_pass 36 = .ok (.iload_n 2, 1) := by decide +kernel
theorem dX5_pass_37 : decode cX5_pass 37 = .ok (.iload_n 1, 1) := by decide +kernel
theorem dX5_pass_38 : decode cX5_pass 38 = .ok (.if_icmp .ge 13, 3) := by decide +kernel
theorem dX5_pass_41 : decode cX5_pass 41 = .ok (.aload_n 0, 1) := by decide +kernel
theorem dX5_pass_42 : decode cX5_pass 42 = .ok (.invokevirtual 113, 3) := by decide +kernel
theorem dX5_pass_45 : decode cX5_pass 45 = .ok (.iinc 2 1, 3) := by decide +kernel
theorem dX5_pass_48 : decode cX5_pass 48 = .ok (.goto (-12), 3) := by decide +kernel
theorem dX5_pass_51 : decode cX5_pass 51 = .ok (.aload_n 0, 1) := by decide +kernel
theorem dX5_pass_52 : decode cX5_pass 52 = .ok (.iconst 3, 1) := by decide +kernel
theorem dX5_pass_53 : decode cX5_pass 53 = .ok (.invokevirtual 104, 3) := by decide +kernel
theorem dX5_pass_56 : decode cX5_pass 56 = .ok (.ireturn, 1) := by decide +kernel
theorem dX5_undo_0 : decode cX5_undo 0 = .ok (.aload_n 0, 1) := by decide +kernel
theorem dX5_undo_1 : decode cX5_undo 1 = .ok (.getfield 22, 3) := by decide +kernel
theorem dX5_undo_4 : decode cX5_undo 4 = .ok (.ifCond .ne 6, 3) := by decide +kernel
theorem dX5_undo_7 : decode cX5_undo 7 = .ok (.bipush (-2), 2) := by decide +kernel
theorem dX5_undo_9 : decode cX5_undo 9 = .ok (.ireturn, 1) := by decide +kernel
theorem dX5_undo_10 : decode cX5_undo 10 = .ok (.aload_n 0, 1) := by decide +kernel
theorem dX5_undo_11 : decode cX5_undo 11 = .ok (.dup, 1) := by decide +kernel
theorem dX5_undo_12 : decode cX5_undo 12 = .ok (.getfield 22, 3) := by decide +kernel
theorem dX5_undo_15 : decode cX5_undo 15 = .ok (.iconst 1, 1) := by decide +kernel
theorem dX5_undo_16 : decode cX5_undo 16 = .ok (.isub, 1) := by decide +kernel
theorem dX5_undo_17 : decode cX5_undo 17 = .ok (.putfield 22, 3) := by decide +kernel
theorem dX5_undo_20 : decode cX5_undo 20 = .ok (.iconst 0, 1) := by decide +kernel
theorem dX5_undo_21 : decode cX5_undo 21 = .ok (.istore_n 1, 1) := by decide +kernel
theorem dX5_undo_22 : decode cX5_undo 22 = .ok (.iload_n 1, 1) := by decide +kernel
theorem dX5_undo_23 : decode cX5_undo 23 = .ok (.sipush 378, 3) := by decide +kernel
theorem dX5_undo_26 : decode cX5_undo 26 = .ok (.if_icmp .ge 30, 3) := by decide +kernel
theorem dX5_undo_29 : decode cX5_undo 29 = .ok (.aload_n 0, 1) := by decide +kernel
theorem dX5_undo_30 : decode cX5_undo 30 = .ok (.getfield 7, 3) := by decide +kernel
theorem dX5_undo_33 : decode cX5_undo 33 = .ok (.iload_n 1, 1) := by decide +kernel
theorem dX5_undo_34 : decode cX5_undo 34 = .ok (.aload_n 0, 1) := by decide +kernel
theorem dX5_undo_35 : decode cX5_undo 35 = .ok (.getfield 13, 3) := by decide +kernel
theorem dX5_undo_38 : decode cX5_undo 38 = .ok (.sipush 378, 3) := by decide +kernel
theorem dX5_undo_41 : decode cX5_undo 41 = .ok (.aload_n 0, 1) := by decide +kernel
theorem dX5_undo_42 : decode cX5_undo 42 = .ok (.getfield 22, 3) := by decide +kernel
theorem dX5_undo_45 : decode cX5_undo 45 = .ok (.imul, 1) := by decide +kernel
theorem dX5_undo_46 : decode cX5_undo 46 = .ok (.iload_n 1, 1) := by decide +kernel
theorem dX5_undo_47 : decode cX5_undo 47 = .ok (.iadd, 1) := by decide +kernel
theorem dX5_undo_48 : decode cX5_undo 48 = .ok (.iaload, 1) := by decide +kernel
theorem dX5_undo_49 : decode cX5_undo 49 = .ok (.iastore, 1) := by decide +kernel
theorem dX5_undo_50 : decode cX5_undo 50 = .ok (.iinc 1 1, 3) := by decide +kernel
theorem dX5_undo_53 : decode cX5_undo 53 = .ok (.goto (-31), 3) := by decide +kernel
theorem dX5_undo_56 : decode cX5_undo 56 = .ok (.aload_n 0, 1) := by decide +kernel
theorem dX5_undo_57 : decode cX5_undo 57 = .ok (.getfield 22, 3) := by decide +kernel
theorem dX5_undo_60 : decode cX5_undo 60 = .ok (.ireturn, 1) := by decide +kernel
set_option maxRecDepth 20000 in
theorem ggX5_isOpen_X5_ofCaller : GoodIn wsX5_isOpen wsX5_ofCaller := goodIn_r _ [5, 6, 7, 8, 9, 10, 11] (by decide +kernel) (by decide +kernel)
set_option maxRecDepth 20000 in
theorem gX5_isOpen_X5_ofCaller : GoodIn wsX5_isOpen (wsV RX5 34 RX5 yX5_ofCaller wsX5_ofCaller) := goodIn_app (goodIn_of _ (by decide +kernel)) ggX5_isOpen_X5_ofCaller
theorem dX5_isOpen_0 : decode cX5_isOpen 0 = .ok (.aload_n 0, 1) := by decide +kernel
theorem dX5_isOpen_1 : decode cX5_isOpen 1 = .ok (.iload_n 1, 1) := by decide +kernel
theorem dX5_isOpen_2 : decode cX5_isOpen 2 = .ok (.iconst 2, 1) := by decide +kernel
theorem dX5_isOpen_3 : decode cX5_isOpen 3 = .ok (.invokevirtual 34, 3) := by decide +kernel
theorem dX5_isOpen_6 : decode cX5_isOpen 6 = .ok (.iconst 1, 1) := by decide +kernel
theorem dX5_isOpen_7 : decode cX5_isOpen 7 = .ok (.if_icmp .gt 7, 3) := by decide +kernel
theorem dX5_isOpen_10 : decode cX5_isOpen 10 = .ok (.iconst 1, 1) := by decide +kernel
theorem dX5_isOpen_11 : decode cX5_isOpen 11 = .ok (.goto 4, 3) := by decide +kernel
theorem dX5_isOpen_14 : decode cX5_isOpen 14 = .ok (.iconst 0, 1) := by decide +kernel
theorem dX5_isOpen_15 : decode cX5_isOpen 15 = .ok (.ireturn, 1) := by decide +kernel
set_option maxRecDepth 20000 in
theorem ggX5_isFirst_X5_isOpen : GoodIn wsX5_isFirst wsX5_isOpen := goodIn_r _ [5, 6, 7, 8, 4, 9, 10, 15, 16, 17, 18, 19] (by decide +kernel) (by decide +kernel)
set_option maxRecDepth 20000 in
theorem gX5_isFirst_X5_isOpen : GoodIn wsX5_isFirst (wsV RX5 116 RX5 yX5_isOpen wsX5_isOpen) := goodIn_app (goodIn_of _ (by decide +kernel)) ggX5_isFirst_X5_isOpen
set_option maxRecDepth 20000 in
theorem ggX5_isFirst_X5_areOne : GoodIn wsX5_isFirst wsX5_areOne := goodIn_r _ [14, 6, 7, 8, 4, 9, 10, 15, 16, 17, 18, 19] (by decide +kernel) (by decide +kernel)
set_option maxRecDepth 20000 in
theorem gX5_isFirst_X5_areOne : GoodIn wsX5_isFirst (wsV RX5 119 RX5 yX5_areOne wsX5_areOne) := goodIn_app (goodIn_of _ (by decide +kernel)) ggX5_isFirst_X5_areOne
theorem dX5_isFirst_0 : decode cX5_isFirst 0 = .ok (.aload_n 0, 1) := by decide +kernel
theorem dX5_isFirst_1 : decode cX5_isFirst 1 = .ok (.iload_n 1, 1) := by decide +kernel
theorem dX5_isFirst_2 : decode cX5_isFirst 2 = .ok (.invokevirtual 116, 3) := by decide +kernel
theorem dX5_isFirst_5 : decode cX5_isFirst 5 = .ok (.istore_n 2, 1) := by decide +kernel
theorem dX5_isFirst_6 : decode cX5_isFirst 6 = .ok (.iconst 0, 1) := by decide +kernel
theorem dX5_isFirst_7 : decode cX5_isFirst 7 = .ok (.istore_n 3, 1) := by decide +kernel
theorem dX5_isFirst_8 : decode cX5_isFirst 8 = .ok (.iload_n 3, 1) := by decide +kernel
theorem dX5_isFirst_9 : decode cX5_isFirst 9 = .ok (.iload_n 1, 1) := by decide +kernel
theorem dX5_isFirst_10 : decode cX5_isFirst 10 = .ok (.if_icmp .ge 36, 3) := by decide +kernel
theorem dX5_isFirst_13 : decode cX5_isFirst 13 = .ok (.iload_n 2, 1) := by decide +kernel
theorem dX5_isFirst_14 : decode cX5_isFirst 14 = .ok (.ifCond .eq 32, 3) := by decide +kernel
theorem dX5_isFirst_17 : decode cX5_isFirst 17 = .ok (.aload_n 0, 1) := by decide +kernel
theorem dX5_isFirst_18 : decode cX5_isFirst 18 = .ok (.iload_n 3, 1) := by decide +kernel
theorem dX5_isFirst_19 : decode cX5_isFirst 19 = .ok (.invokevirtual 116, 3) := by decide +kernel
theorem dX5_isFirst_22 : decode cX5_isFirst 22 = .ok (.ifCond .eq 12, 3) := by decide +kernel
theorem dX5_isFirst_25 : decode cX5_isFirst 25 = .ok (.aload_n 0, 1) := by decide +kernel
theorem dX5_isFirst_26 : decode cX5_isFirst 26 = .ok (.iload_n 3, 1) := by decide +kernel
theorem dX5_isFirst_27 : decode cX5_isFirst 27 = .ok (.iload_n 1, 1) := by decide +kernel
theorem dX5_isFirst_28 : decode cX5_isFirst 28 = .ok (.invokevirtual 119, 3) := by decide +kernel
theorem dX5_isFirst_31 : decode cX5_isFirst 31 = .ok (.ifCond .ne 7, 3) := by decide +kernel
theorem dX5_isFirst_34 : decode cX5_isFirst 34 = .ok (.iconst 1, 1) := by decide +kernel
theorem dX5_isFirst_35 : decode cX5_isFirst 35 = .ok (.goto 4, 3) := by decide +kernel
theorem dX5_isFirst_38 : decode cX5_isFirst 38 = .ok (.iconst 0, 1) := by decide +kernel
theorem dX5_isFirst_39 : decode cX5_isFirst 39 = .ok (.istore_n 2, 1) := by decide +kernel
theorem dX5_isFirst_40 : decode cX5_isFirst 40 = .ok (.iinc 3 1, 3) := by decide +kernel
theorem dX5_isFirst_43 : decode cX5_isFirst 43 = .ok (.goto (-35), 3) := by decide +kernel
theorem dX5_isFirst_46 : decode cX5_isFirst 46 = .ok (.iload_n 2, 1) := by decide +kernel
theorem dX5_isFirst_47 : decode cX5_isFirst 47 = .ok (.ireturn, 1) := by decide +kernel
set_option maxRecDepth 20000 in
theorem ggX5_areOne_X5_ofCaller : GoodIn wsX5_areOne wsX5_ofCaller := goodIn_r _ [5, 6, 7, 8, 9, 10, 11] (by decide +kernel) (by decide +kernel)
set_option maxRecDepth 20000 in
theorem gX5_areOne_X5_ofCaller : GoodIn wsX5_areOne (wsV RX5 34 RX5 yX5_ofCaller wsX5_ofCaller) := goodIn_app (goodIn_of _ (by decide +kernel)) ggX5_areOne_X5_ofCaller
theorem dX5_areOne_0 : decode cX5_areOne 0 = .ok (.aload_n 0, 1) := by decide +kernel
theorem dX5_areOne_1 : decode cX5_areOne 1 = .ok (.iload_n 1, 1) := by decide +kernel
theorem dX5_areOne_2 : decode cX5_areOne 2 = .ok (.iconst 0, 1) := by decide +kernel
theorem dX5_areOne_3 : decode cX5_areOne 3 = .ok (.invokevirtual 34, 3) := by decide +kernel
theorem dX5_areOne_6 : decode cX5_areOne 6 = .ok (.aload_n 0, 1) := by decide +kernel
theorem dX5_areOne_7 : decode cX5_areOne 7 = .ok (.iload_n 2, 1) := by decide +kernel
theorem dX5_areOne_8 : decode cX5_areOne 8 = .ok (.iconst 0, 1) := by decide +kernel
theorem dX5_areOne_9 : decode cX5_areOne 9 = .ok (.invokevirtual 34, 3) := by decide +kernel
theorem dX5_areOne_12 : decode cX5_areOne 12 = .ok (.if_icmp .ne 22, 3) := by decide +kernel
theorem dX5_areOne_15 : decode cX5_areOne 15 = .ok (.aload_n 0, 1) := by decide +kernel
theorem dX5_areOne_16 : decode cX5_areOne 16 = .ok (.iload_n 1, 1) := by decide +kernel
theorem dX5_areOne_17 : decode cX5_areOne 17 = .ok (.iconst 1, 1) := by decide +kernel
theorem dX5_areOne_18 : decode cX5_areOne 18 = .ok (.invokevirtual 34, 3) := by decide +kernel
theorem dX5_areOne_21 : decode cX5_areOne 21 = .ok (.aload_n 0, 1) := by decide +kernel
theorem dX5_areOne_22 : decode cX5_areOne 22 = .ok (.iload_n 2, 1) := by decide +kernel
theorem dX5_areOne_23 : decode cX5_areOne 23 = .ok (.iconst 1, 1) := by decide +kernel
theorem dX5_areOne_24 : decode cX5_areOne 24 = .ok (.invokevirtual 34, 3) := by decide +kernel
theorem dX5_areOne_27 : decode cX5_areOne 27 = .ok (.if_icmp .ne 7, 3) := by decide +kernel
theorem dX5_areOne_30 : decode cX5_areOne 30 = .ok (.iconst 1, 1) := by decide +kernel
theorem dX5_areOne_31 : decode cX5_areOne 31 = .ok (.goto 4, 3) := by decide +kernel
theorem dX5_areOne_34 : decode cX5_areOne 34 = .ok (.iconst 0, 1) := by decide +kernel
theorem dX5_areOne_35 : decode cX5_areOne 35 = .ok (.ireturn, 1) := by decide +kernel
set_option maxRecDepth 20000 in
theorem ggX5_groups_X5_isFirst : GoodIn wsX5_groups wsX5_isFirst := goodIn_r _ [6, 7, 8, 9, 5, 10, 11, 12, 13, 14, 1, 15, 16, 17, 18, 19, 20, 21, 22, 23] (by decide +kernel) (by decide +kernel)
set_option maxRecDepth 20000 in
theorem gX5_groups_X5_isFirst : GoodIn wsX5_groups (wsV RX5 122 RX5 yX5_isFirst wsX5_isFirst) := goodIn_app (goodIn_of _ (by decide +kernel)) ggX5_groups_X5_isFirst
theorem dX5_groups_0 : decode cX5_groups 0 = .ok (.iconst 0, 1) := by decide +kernel
theorem dX5_groups_1 : decode cX5_groups 1 = .ok (.istore_n 1, 1) := by decide +kernel
theorem dX5_groups_2 : decode cX5_groups 2 = .ok (.iconst 0, 1) := by decide +kernel
theorem dX5_groups_3 : decode cX5_groups 3 = .ok (.istore_n 2, 1) := by decide +kernel
theorem dX5_groups_4 : decode cX5_groups 4 = .ok (.iload_n 2, 1) := by decide +kernel
theorem dX5_groups_5 : decode cX5_groups 5 = .ok (.aload_n 0, 1) := by decide +kernel
theorem dX5_groups_6 : decode cX5_groups 6 = .ok (.getfield 7, 3) := by decide +kernel
theorem dX5_groups_9 : decode cX5_groups 9 = .ok (.iconst 2, 1) := by decide +kernel
theorem dX5_groups_10 : decode cX5_groups 10 = .ok (.iaload, 1) := by decide +kernel
theorem dX5_groups_11 : decode cX5_groups 11 = .ok (.if_icmp .ge 25, 3) := by decide +kernel
theorem dX5_groups_14 : decode cX5_groups 14 = .ok (.iload_n 1, 1) := by decide +kernel
theorem dX5_groups_15 : decode cX5_groups 15 = .ok (.aload_n 0, 1) := by decide +kernel
theorem dX5_groups_16 : decode cX5_groups 16 = .ok (.iload_n 2, 1) := by decide +kernel
theorem dX5_groups_17 : decode cX5_groups 17 = .ok (.invokevirtual 122, 3) := by decide +kernel
theorem dX5_groups_20 : decode cX5_groups 20 = .ok (.ifCond .eq 7, 3) := by decide +kernel
theorem dX5_groups_23 : decode cX5_groups 23 = .ok (.iconst 1, 1) := by decide +kernel
theorem dX5_groups_24 : decode cX5_groups 24 = .ok (.goto 4, 3) := by decide +kernel
theorem dX5_groups_27 : decode cX5_groups 27 = .ok (.iconst 0, 1) := by decide +kernel
theorem dX5_groups_28 : decode cX5_groups 28 = .ok (.iadd, 1) := by decide +kernel
theorem dX5_groups_29 : decode cX5_groups 29 = .ok (.istore_n 1, 1) := by decide +kernel
theorem dX5_groups_30 : decode cX5_groups 30 = .ok (.iinc 2 1, 3) := by decide +kernel
theorem dX5_groups_33 : decode cX5_groups 33 = .ok (.goto (-29), 3) := by decide +kernel
theorem dX5_groups_36 : decode cX5_groups 36 = .ok (.iload_n 1, 1) := by decide +kernel
theorem dX5_groups_37 : decode cX5_groups 37 = .ok (.ireturn, 1) := by decide +kernel
set_option maxRecDepth 20000 in
theorem ggX5_sumOfCars_X5_ofCar : GoodIn wsX5_sumOfCars wsX5_ofCar := goodIn_r _ [6, 1, 7, 8, 9, 10, 11] (by decide +kernel) (by decide +kernel)
set_option maxRecDepth 20000 in
theorem gX5_sumOfCars_X5_ofCar : GoodIn wsX5_sumOfCars (wsV RX5 38 RX5 yX5_ofCar wsX5_ofCar) := goodIn_app (goodIn_of _ (by decide +kernel)) ggX5_sumOfCars_X5_ofCar
theorem dX5_sumOfCars_0 : decode cX5_sumOfCars 0 = .ok (.iconst 0, 1) := by decide +kernel
theorem dX5_sumOfCars_1 : decode cX5_sumOfCars 1 = .ok (.istore_n 3, 1) := by decide +kernel
theorem dX5_sumOfCars_2 : decode cX5_sumOfCars 2 = .ok (.iconst 0, 1) := by decide +kernel
theorem dX5_sumOfCars_3 : decode cX5_sumOfCars 3 = .ok (.istore 4, 2) := by decide +kernel
theorem dX5_sumOfCars_5 : decode cX5_sumOfCars 5 = .ok (.iload 4, 2) := by decide +kernel
theorem dX5_sumOfCars_7 : decode cX5_sumOfCars 7 = .ok (.aload_n 0, 1) := by decide +kernel
theorem dX5_sumOfCars_8 : decode cX5_sumOfCars 8 = .ok (.getfield 7, 3) := by decide +kernel
theorem dX5_sumOfCars_11 : decode cX5_sumOfCars 11 = .ok (.iconst 1, 1) := by decide +kernel
theorem dX5_sumOfCars_12 : decode cX5_sumOfCars 12 = .ok (.iaload, 1) := by decide +kernel
theorem dX5_sumOfCars_13 : decode cX5_sumOfCars 13 = .ok (.if_icmp .ge 43, 3) := by decide +kernel
theorem dX5_sumOfCars_16 : decode cX5_sumOfCars 16 = .ok (.iload_n 3, 1) := by decide +kernel
theorem dX5_sumOfCars_17 : decode cX5_sumOfCars 17 = .ok (.iload_n 1, 1) := by decide +kernel
theorem dX5_sumOfCars_18 : decode cX5_sumOfCars 18 = .ok (.iconst 5, 1) := by decide +kernel
theorem dX5_sumOfCars_19 : decode cX5_sumOfCars 19 = .ok (.if_icmp .ne 13, 3) := by decide +kernel
theorem dX5_sumOfCars_22 : decode cX5_sumOfCars 22 = .ok (.aload_n 0, 1) := by decide +kernel
theorem dX5_sumOfCars_23 : decode cX5_sumOfCars 23 = .ok (.iload 4, 2) := by decide +kernel
theorem dX5_sumOfCars_25 : decode cX5_sumOfCars 25 = .ok (.iconst 5, 1) := by decide +kernel
theorem dX5_sumOfCars_26 : decode cX5_sumOfCars 26 = .ok (.invokevirtual 38, 3) := by decide +kernel
theorem dX5_sumOfCars_29 : decode cX5_sumOfCars 29 = .ok (.goto 19, 3) := by decide +kernel
theorem dX5_sumOfCars_32 : decode cX5_sumOfCars 32 = .ok (.aload_n 0, 1) := by decide +kernel
theorem dX5_sumOfCars_33 : decode cX5_sumOfCars 33 = .ok (.iload 4, 2) := by decide +kernel
theorem dX5_sumOfCars_35 : decode cX5_sumOfCars 35 = .ok (.iload_n 1, 1) := by decide +kernel
theorem dX5_sumOfCars_36 : decode cX5_sumOfCars 36 = .ok (.invokevirtual 38, 3) := by decide +kernel
theorem dX5_sumOfCars_39 : decode cX5_sumOfCars 39 = .ok (.iload_n 2, 1) := by decide +kernel
theorem dX5_sumOfCars_40 : decode cX5_sumOfCars 40 = .ok (.if_icmp .ne 7, 3) := by decide +kernel
theorem dX5_sumOfCars_43 : decode cX5_sumOfCars 43 = .ok (.iconst 1, 1) := by decide +kernel
theorem dX5_sumOfCars_44 : decode cX5_sumOfCars 44 = .ok (.goto 4, 3) := by decide +kernel
theorem dX5_sumOfCars_47 : decode cX5_sumOfCars 47 = .ok (.iconst 0, 1) := by decide +kernel
theorem dX5_sumOfCars_48 : decode cX5_sumOfCars 48 = .ok (.iadd, 1) := by decide +kernel
theorem dX5_sumOfCars_49 : decode cX5_sumOfCars 49 = .ok (.istore_n 3, 1) := by decide +kernel
theorem dX5_sumOfCars_50 : decode cX5_sumOfCars 50 = .ok (.iinc 4 1, 3) := by decide +kernel
theorem dX5_sumOfCars_53 : decode cX5_sumOfCars 53 = .ok (.goto (-48), 3) := by decide +kernel
theorem dX5_sumOfCars_56 : decode cX5_sumOfCars 56 = .ok (.iload_n 3, 1) := by decide +kernel
theorem dX5_sumOfCars_57 : decode cX5_sumOfCars 57 = .ok (.ireturn, 1) := by decide +kernel
set_option maxRecDepth 20000 in
theorem ggX5_count_X5_hour : GoodIn wsX5_count wsX5_hour := goodIn_r _ [7, 1, 40, 41, 42, 43, 44] (by decide +kernel) (by decide +kernel)
set_option maxRecDepth 20000 in
theorem gX5_count_X5_hour : GoodIn wsX5_count (wsV RX5 30 RX5 yX5_hour wsX5_hour) := goodIn_app (goodIn_of _ (by decide +kernel)) ggX5_count_X5_hour
set_option maxRecDepth 20000 in
theorem ggX5_count_X5_inAll : GoodIn wsX5_count wsX5_inAll := goodIn_r _ [11, 1, 12, 13, 14, 6, 15, 40, 41, 42, 43, 44] (by decide +kernel) (by decide +kernel)
set_option maxRecDepth 20000 in
theorem gX5_count_X5_inAll : GoodIn wsX5_count (wsV RX5 104 RX5 yX5_inAll wsX5_inAll) := goodIn_app (goodIn_of _ (by decide +kernel)) ggX5_count_X5_inAll
set_option maxRecDepth 20000 in
theorem ggX5_count_X5_groups : GoodIn wsX5_count wsX5_groups := goodIn_r _ [19, 1, 20, 21, 22, 6, 23, 24, 25, 26, 27, 12, 13, 14, 15, 28, 29, 30, 31, 40, 41, 42, 43, 44] (by decide +kernel) (by decide +kernel)
set_option maxRecDepth 20000 in
theorem gX5_count_X5_groups : GoodIn wsX5_count (wsV RX5 125 RX5 yX5_groups wsX5_groups) := goodIn_app (goodIn_of _ (by decide +kernel)) ggX5_count_X5_groups
set_option maxRecDepth 20000 in
theorem ggX5_count_X5_sumOfCars : GoodIn wsX5_count wsX5_sumOfCars := goodIn_r _ [35, 1, 36, 37, 38, 6, 39, 40, 41, 42, 43, 44] (by decide +kernel) (by decide +kernel)
set_option maxRecDepth 20000 in
theorem gX5_count_X5_sumOfCars : GoodIn wsX5_count (wsV RX5 128 RX5 yX5_sumOfCars wsX5_sumOfCars) := goodIn_app (goodIn_of _ (by decide +kernel)) ggX5_count_X5_sumOfCars
theorem dX5_count_0 : decode cX5_count 0 = .ok (.iload_n 1, 1) := by decide +kernel
theorem dX5_count_1 : decode cX5_count 1 = .ok (.tableswitch 143 0 13 #[71, 78, 83, 90, 97, 97, 97, 97, 105, 110, 117, 124, 131, 138], 71) := by decide +kernel
theorem dX5_count_72 : decode cX5_count 72 = .ok (.aload_n 0, 1) := by decide +kernel
theorem dX5_count_73 : decode cX5_count 73 = .ok (.getfield 7, 3) := by decide +kernel
theorem dX5_count_76 : decode cX5_count 76 = .ok (.iconst 0, 1) := by decide +kernel
theorem dX5_count_77 : decode cX5_count 77 = .ok (.iaload, 1) := by decide +kernel
theorem dX5_count_78 : decode cX5_count 78 = .ok (.ireturn, 1) := by decide +kernel
theorem dX5_count_79 : decode cX5_count 79 = .ok (.aload_n 0, 1) := by decide +kernel
theorem dX5_count_80 : decode cX5_count 80 = .ok (.invokevirtual 30, 3) := by decide +kernel
theorem dX5_count_83 : decode cX5_count 83 = .ok (.ireturn, 1) := by decide +kernel
theorem dX5_count_84 : decode cX5_count 84 = .ok (.aload_n 0, 1) := by decide +kernel
theorem dX5_count_85 : decode cX5_count 85 = .ok (.getfield 7, 3) := by decide +kernel
theorem dX5_count_88 : decode cX5_count 88 = .ok (.iconst 1, 1) := by decide +kernel
theorem dX5_count_89 : decode cX5_count 89 = .ok (.iaload, 1) := by decide +kernel
theorem dX5_count_90 : decode cX5_count 90 = .ok (.ireturn, 1) := by decide +kernel
theorem dX5_count_91 : decode cX5_count 91 = .ok (.aload_n 0, 1) := by decide +kernel
theorem dX5_count_92 : decode cX5_count 92 = .ok (.getfield 7, 3) := by decide +kernel
theorem dX5_count_95 : decode cX5_count 95 = .ok (.iconst 2, 1) := by decide +kernel
theorem dX5_count_96 : decode cX5_count 96 = .ok (.iaload, 1) := by decide +kernel
theorem dX5_count_97 : decode cX5_count 97 = .ok (.ireturn, 1) := by decide +kernel
theorem dX5_count_98 : decode cX5_count 98 = .ok (.aload_n 0, 1) := by decide +kernel
theorem dX5_count_99 : decode cX5_count 99 = .ok (.iload_n 1, 1) := by decide +kernel
theorem dX5_count_100 : decode cX5_count 100 = .ok (.iconst 4, 1) := by decide +kernel
theorem dX5_count_101 : decode cX5_count 101 = .ok (.isub, 1) := by decide +kernel
theorem dX5_count_102 : decode cX5_count 102 = .ok (.invokevirtual 104, 3) := by decide +kernel
theorem dX5_count_105 : decode cX5_count 105 = .ok (.ireturn, 1) := by decide +kernel
theorem dX5_count_106 : decode cX5_count 106 = .ok (.aload_n 0, 1) := by decide +kernel
theorem dX5_count_107 : decode cX5_count 107 = .ok (.invokevirtual 125, 3) := by decide +kernel
theorem dX5_count_110 : decode cX5_count 110 = .ok (.ireturn, 1) := by decide +kernel
theorem dX5_count_111 : decode cX5_count 111 = .ok (.aload_n 0, 1) := by decide +kernel
theorem dX5_count_112 : decode cX5_count 112 = .ok (.iconst 5, 1) := by decide +kernel
theorem dX5_count_113 : decode cX5_count 113 = .ok (.iconst 0, 1) := by decide +kernel
theorem dX5_count_114 : decode cX5_count 114 = .ok (.invokevirtual 128, 3) := by decide +kernel
theorem dX5_count_117 : decode cX5_count 117 = .ok (.ireturn, 1) := by decide +kernel
theorem dX5_count_118 : decode cX5_count 118 = .ok (.aload_n 0, 1) := by decide +kernel
theorem dX5_count_119 : decode cX5_count 119 = .ok (.getfield 7, 3) := by decide +kernel
theorem dX5_count_122 : decode cX5_count 122 = .ok (.iconst 3, 1) := by decide +kernel
theorem dX5_count_123 : decode cX5_count 123 = .ok (.iaload, 1) := by decide +kernel
theorem dX5_count_124 : decode cX5_count 124 = .ok (.ireturn, 1) := by decide +kernel
theorem dX5_count_125 : decode cX5_count 125 = .ok (.aload_n 0, 1) := by decide +kernel
theorem dX5_count_126 : decode cX5_count 126 = .ok (.iconst 4, 1) := by decide +kernel
theorem dX5_count_127 : decode cX5_count 127 = .ok (.iconst 1, 1) := by decide +kernel
theorem dX5_count_128 : decode cX5_count 128 = .ok (.invokevirtual 128, 3) := by decide +kernel
theorem dX5_count_131 : decode cX5_count 131 = .ok (.ireturn, 1) := by decide +kernel
theorem dX5_count_132 : decode cX5_count 132 = .ok (.aload_n 0, 1) := by decide +kernel
theorem dX5_count_133 : decode cX5_count 133 = .ok (.iconst 4, 1) := by decide +kernel
theorem dX5_count_134 : decode cX5_count 134 = .ok (.iconst 2, 1) := by decide +kernel
theorem dX5_count_135 : decode cX5_count 135 = .ok (.invokevirtual 128, 3) := by decide +kernel
theorem dX5_count_138 : decode cX5_count 138 = .ok (.ireturn, 1) := by decide +kernel
theorem dX5_count_139 : decode cX5_count 139 = .ok (.aload_n 0, 1) := by decide +kernel
theorem dX5_count_140 : decode cX5_count 140 = .ok (.getfield 22, 3) := by decide +kernel
theorem dX5_count_143 : decode cX5_count 143 = .ok (.ireturn, 1) := by decide +kernel
theorem dX5_count_144 : decode cX5_count 144 = .ok (.iconst (-1), 1) := by decide +kernel
theorem dX5_count_145 : decode cX5_count 145 = .ok (.ireturn, 1) := by decide +kernel
set_option maxRecDepth 20000 in
theorem ggX5_car_X5_isCar : GoodIn wsX5_car wsX5_isCar := goodIn_r _ [5, 6, 44, 45, 46, 47, 48] (by decide +kernel) (by decide +kernel)
set_option maxRecDepth 20000 in
theorem gX5_car_X5_isCar : GoodIn wsX5_car (wsV RX5 98 RX5 yX5_isCar wsX5_isCar) := goodIn_app (goodIn_of _ (by decide +kernel)) ggX5_car_X5_isCar
set_option maxRecDepth 20000 in
theorem ggX5_car_X5_ofCar : GoodIn wsX5_car wsX5_ofCar := goodIn_r _ [10, 6, 44, 45, 46, 47, 48] (by decide +kernel) (by decide +kernel)
set_option maxRecDepth 20000 in
theorem gX5_car_X5_ofCar : GoodIn wsX5_car (wsV RX5 38 RX5 yX5_ofCar wsX5_ofCar) := goodIn_app (goodIn_of _ (by decide +kernel)) ggX5_car_X5_ofCar
set_option maxRecDepth 20000 in
theorem ggX5_car_X5_many : GoodIn wsX5_car wsX5_many := goodIn_r _ [14, 6, 15, 16, 17, 4, 18, 44, 45, 46, 47, 48] (by decide +kernel) (by decide +kernel)
set_option maxRecDepth 20000 in
theorem gX5_car_X5_many : GoodIn wsX5_car (wsV RX5 55 RX5 yX5_many wsX5_many) := goodIn_app (goodIn_of _ (by decide +kernel)) ggX5_car_X5_many
set_option maxRecDepth 20000 in
theorem ggX5_car_X5_stops : GoodIn wsX5_car wsX5_stops := goodIn_r _ [22, 6, 15, 16, 17, 4, 18, 23, 24, 25, 44, 45, 46, 47, 48] (by decide +kernel) (by decide +kernel)
set_option maxRecDepth 20000 in
theorem gX5_car_X5_stops : GoodIn wsX5_car (wsV RX5 45 RX5 yX5_stops wsX5_stops) := goodIn_app (goodIn_of _ (by decide +kernel)) ggX5_car_X5_stops
set_option maxRecDepth 20000 in
theorem ggX5_car_X5_ones : GoodIn wsX5_car wsX5_ones := goodIn_r _ [28] (by decide +kernel) (by decide +kernel)
set_option maxRecDepth 20000 in
theorem gX5_car_X5_ones : GoodIn wsX5_car (va_wsS RX5 49 yX5_ones wsX5_ones) := goodIn_app (goodIn_of _ (by decide +kernel)) ggX5_car_X5_ones
set_option maxRecDepth 20000 in
theorem ggX5_car_X5_aim : GoodIn wsX5_car wsX5_aim := goodIn_r _ [32, 6, 7, 8, 9, 4, 10, 15, 16, 17, 18, 33, 34, 35, 44, 45, 46, 47, 48] (by decide +kernel) (by decide +kernel)
set_option maxRecDepth 20000 in
theorem gX5_car_X5_aim : GoodIn wsX5_car (wsV RX5 83 RX5 yX5_aim wsX5_aim) := goodIn_app (goodIn_of _ (by decide +kernel)) ggX5_car_X5_aim
set_option maxRecDepth 20000 in
theorem ggX5_car_X5_isAwake : GoodIn wsX5_car wsX5_isAwake := goodIn_r _ [39, 6, 40, 41, 42, 4, 43, 44, 45, 46, 47, 48] (by decide +kernel) (by decide +kernel)
set_option maxRecDepth 20000 in
theorem gX5_car_X5_isAwake : GoodIn wsX5_car (wsV RX5 41 RX5 yX5_isAwake wsX5_isAwake) := goodIn_app (goodIn_of _ (by decide +kernel)) ggX5_car_X5_isAwake
theorem dX5_car_0 : decode cX5_car 0 = .ok (.aload_n 0, 1) := by decide +kernel
theorem dX5_car_1 : decode cX5_car 1 = .ok (.iload_n 1, 1) := by decide +kernel
theorem dX5_car_2 : decode cX5_car 2 = .ok (.invokevirtual 98, 3) := by decide +kernel
theorem dX5_car_5 : decode cX5_car 5 = .ok (.ifCond .ne 5, 3) := by decide +kernel
theorem dX5_car_8 : decode cX5_car 8 = .ok (.iconst (-1), 1) := by decide +kernel
theorem dX5_car_9 : decode cX5_car 9 = .ok (.ireturn, 1) := by decide +kernel
theorem dX5_car_10 : decode cX5_car 10 = .ok (.iload_n 2, 1) := by decide +kernel
theorem dX5_car_11 : decode cX5_car 11 = .ok (.tableswitch 109 0 7 #[45, 52, 59, 66, 73, 82, 88, 95], 45) := by decide +kernel
theorem dX5_car_56 : decode cX5_car 56 = .ok (.aload_n 0, 1) := by decide +kernel
theorem dX5_car_57 : decode cX5_car 57 = .ok (.iload_n 1, 1) := by decide +kernel
theorem dX5_car_58 : decode cX5_car 58 = .ok (.iconst 3, 1) := by decide +kernel
theorem dX5_car_59 : decode cX5_car 59 = .ok (.invokevirtual 38, 3) := by decide +kernel
theorem dX5_car_62 : decode cX5_car 62 = .ok (.ireturn, 1) := by decide +kernel
theorem dX5_car_63 : decode cX5_car 63 = .ok (.aload_n 0, 1) := by decide +kernel
theorem dX5_car_64 : decode cX5_car 64 = .ok (.iload_n 1, 1) := by decide +kernel
theorem dX5_car_65 : decode cX5_car 65 = .ok (.iconst 4, 1) := by decide +kernel
theorem dX5_car_66 : decode cX5_car 66 = .ok (.invokevirtual 38, 3) := by decide +kernel
theorem dX5_car_69 : decode cX5_car 69 = .ok (.ireturn, 1) := by decide +kernel
theorem dX5_car_70 : decode cX5_car 70 = .ok (.aload_n 0, 1) := by decide +kernel
theorem dX5_car_71 : decode cX5_car 71 = .ok (.iload_n 1, 1) := by decide +kernel
theorem dX5_car_72 : decode cX5_car 72 = .ok (.iconst 2, 1) := by decide +kernel
theorem dX5_car_73 : decode cX5_car 73 = .ok (.invokevirtual 55, 3) := by decide +kernel
theorem dX5_car_76 : decode cX5_car 76 = .ok (.ireturn, 1) := by decide +kernel
theorem dX5_car_77 : decode cX5_car 77 = .ok (.aload_n 0, 1) := by decide +kernel
theorem dX5_car_78 : decode cX5_car 78 = .ok (.iload_n 1, 1) := by decide +kernel
theorem dX5_car_79 : decode cX5_car 79 = .ok (.iconst 1, 1) := by decide +kernel
theorem dX5_car_80 : decode cX5_car 80 = .ok (.invokevirtual 55, 3) := by decide +kernel
theorem dX5_car_83 : decode cX5_car 83 = .ok (.ireturn, 1) := by decide +kernel
theorem dX5_car_84 : decode cX5_car 84 = .ok (.aload_n 0, 1) := by decide +kernel
theorem dX5_car_85 : decode cX5_car 85 = .ok (.iload_n 1, 1) := by decide +kernel
theorem dX5_car_86 : decode cX5_car 86 = .ok (.invokevirtual 45, 3) := by decide +kernel
theorem dX5_car_89 : decode cX5_car 89 = .ok (.invokestatic 49, 3) := by decide +kernel
theorem dX5_car_92 : decode cX5_car 92 = .ok (.ireturn, 1) := by decide +kernel
theorem dX5_car_93 : decode cX5_car 93 = .ok (.aload_n 0, 1) := by decide +kernel
theorem dX5_car_94 : decode cX5_car 94 = .ok (.iload_n 1, 1) := by decide +kernel
theorem dX5_car_95 : decode cX5_car 95 = .ok (.invokevirtual 83, 3) := by decide +kernel
theorem dX5_car_98 : decode cX5_car 98 = .ok (.ireturn, 1) := by decide +kernel
theorem dX5_car_99 : decode cX5_car 99 = .ok (.aload_n 0, 1) := by decide +kernel
theorem dX5_car_100 : decode cX5_car 100 = .ok (.iload_n 1, 1) := by decide +kernel
theorem dX5_car_101 : decode cX5_car 101 = .ok (.iconst 5, 1) := by decide +kernel
theorem dX5_car_102 : decode cX5_car 102 = .ok (.invokevirtual 38, 3) := by decide +kernel
theorem dX5_car_105 : decode cX5_car 105 = .ok (.ireturn, 1) := by decide +kernel
theorem dX5_car_106 : decode cX5_car 106 = .ok (.aload_n 0, 1) := by decide +kernel
theorem dX5_car_107 : decode cX5_car 107 = .ok (.iload_n 1, 1) := by decide +kernel
theorem dX5_car_108 : decode cX5_car 108 = .ok (.invokevirtual 41, 3) := by decide +kernel
theorem dX5_car_111 : decode cX5_car 111 = .ok (.ifCond .eq 7, 3) := by decide +kernel
theorem dX5_car_114 : decode cX5_car 114 = .ok (.iconst 1, 1) := by decide +kernel
theorem dX5_car_115 : decode cX5_car 115 = .ok (.goto 4, 3) := by decide +kernel
theorem dX5_car_118 : decode cX5_car 118 = .ok (.iconst 0, 1) := by decide +kernel
theorem dX5_car_119 : decode cX5_car 119 = .ok (.ireturn, 1) := by decide +kernel
theorem dX5_car_120 : decode cX5_car 120 = .ok (.iconst (-1), 1) := by decide +kernel
theorem dX5_car_121 : decode cX5_car 121 = .ok (.ireturn, 1) := by decide +kernel
set_option maxRecDepth 20000 in
theorem ggX5_caller_X5_isCaller : GoodIn wsX5_caller wsX5_isCaller := goodIn_r _ [5, 6, 14, 15, 16, 17, 18] (by decide +kernel) (by decide +kernel)
set_option maxRecDepth 20000 in
theorem gX5_caller_X5_isCaller : GoodIn wsX5_caller (wsV RX5 131 RX5 yX5_isCaller wsX5_isCaller) := goodIn_app (goodIn_of _ (by decide +kernel)) ggX5_caller_X5_isCaller
set_option maxRecDepth 20000 in
theorem ggX5_caller_X5_in : GoodIn wsX5_caller wsX5_in := goodIn_r _ [9] (by decide +kernel) (by decide +kernel)
set_option maxRecDepth 20000 in
theorem gX5_caller_X5_in : GoodIn wsX5_caller (va_wsS RX5 26 yX5_in wsX5_in) := goodIn_app (goodIn_of _ (by decide +kernel)) ggX5_caller_X5_in
set_option maxRecDepth 20000 in
theorem ggX5_caller_X5_ofCaller : GoodIn wsX5_caller wsX5_ofCaller := goodIn_r _ [13, 6, 14, 15, 16, 17, 18] (by decide +kernel) (by decide +kernel)
set_option maxRecDepth 20000 in
theorem gX5_caller_X5_ofCaller : GoodIn wsX5_caller (wsV RX5 34 RX5 yX5_ofCaller wsX5_ofCaller) := goodIn_app (goodIn_of _ (by decide +kernel)) ggX5_caller_X5_ofCaller
theorem dX5_caller_0 : decode cX5_caller 0 = .ok (.aload_n 0, 1) := by decide +kernel
theorem dX5_caller_1 : decode cX5_caller 1 = .ok (.iload_n 1, 1) := by decide +kernel
theorem dX5_caller_2 : decode cX5_caller 2 = .ok (.invokevirtual 131, 3) := by decide +kernel
theorem dX5_caller_5 : decode cX5_caller 5 = .ok (.ifCond .eq 22, 3) := by decide +kernel
theorem dX5_caller_8 : decode cX5_caller 8 = .ok (.iload_n 2, 1) := by decide +kernel
theorem dX5_caller_9 : decode cX5_caller 9 = .ok (.iconst 0, 1) := by decide +kernel
theorem dX5_caller_10 : decode cX5_caller 10 = .ok (.bipush 7, 2) := by decide +kernel
theorem dX5_caller_12 : decode cX5_caller 12 = .ok (.invokestatic 26, 3) := by decide +kernel
theorem dX5_caller_15 : decode cX5_caller 15 = .ok (.ifCond .eq 12, 3) := by decide +kernel
theorem dX5_caller_18 : decode cX5_caller 18 = .ok (.aload_n 0, 1) := by decide +kernel
theorem dX5_caller_19 : decode cX5_caller 19 = .ok (.iload_n 1, 1) := by decide +kernel
theorem dX5_caller_20 : decode cX5_caller 20 = .ok (.iload_n 2, 1) := by decide +kernel
theorem dX5_caller_21 : decode cX5_caller 21 = .ok (.invokevirtual 34, 3) := by decide +kernel
theorem dX5_caller_24 : decode cX5_caller 24 = .ok (.goto 4, 3) := by decide +kernel
theorem dX5_caller_27 : decode cX5_caller 27 = .ok (.iconst (-1), 1) := by decide +kernel
theorem dX5_caller_28 : decode cX5_caller 28 = .ok (.ireturn, 1) := by decide +kernel
set_option maxRecDepth 20000 in
theorem ggX5_group_X5_in : GoodIn wsX5_group wsX5_in := goodIn_r _ [5] (by decide +kernel) (by decide +kernel)
set_option maxRecDepth 20000 in
theorem gX5_group_X5_in : GoodIn wsX5_group (va_wsS RX5 26 yX5_in wsX5_in) := goodIn_app (goodIn_of _ (by decide +kernel)) ggX5_group_X5_in
set_option maxRecDepth 20000 in
theorem ggX5_group_X5_isFirst : GoodIn wsX5_group wsX5_isFirst := goodIn_r _ [9, 10, 11, 12, 4, 13, 14, 15, 16, 17, 1, 18, 19, 20, 21, 22, 23, 24, 25, 26] (by decide +kernel) (by decide +kernel)
set_option maxRecDepth 20000 in
theorem gX5_group_X5_isFirst : GoodIn wsX5_group (wsV RX5 122 RX5 yX5_isFirst wsX5_isFirst) := goodIn_app (goodIn_of _ (by decide +kernel)) ggX5_group_X5_isFirst
set_option maxRecDepth 20000 in
theorem ggX5_group_X5_isOpen : GoodIn wsX5_group wsX5_isOpen := goodIn_r _ [13, 14, 15, 16, 4, 17, 1, 22, 23, 24, 25, 26] (by decide +kernel) (by decide +kernel)
set_option maxRecDepth 20000 in
theorem gX5_group_X5_isOpen : GoodIn wsX5_group (wsV RX5 116 RX5 yX5_isOpen wsX5_isOpen) := goodIn_app (goodIn_of _ (by decide +kernel)) ggX5_group_X5_isOpen
set_option maxRecDepth 20000 in
theorem ggX5_group_X5_areOne : GoodIn wsX5_group wsX5_areOne := goodIn_r _ [21, 14, 15, 16, 4, 17, 1, 22, 23, 24, 25, 26] (by decide +kernel) (by decide +kernel)
set_option maxRecDepth 20000 in
theorem gX5_group_X5_areOne : GoodIn wsX5_group (wsV RX5 119 RX5 yX5_areOne wsX5_areOne) := goodIn_app (goodIn_of _ (by decide +kernel)) ggX5_group_X5_areOne
set_option maxRecDepth 20000 in
theorem ggX5_group_X5_ofCaller : GoodIn wsX5_group wsX5_ofCaller := goodIn_r _ [17, 1, 22, 23, 24, 25, 26] (by decide +kernel) (by decide +kernel)
set_option maxRecDepth 20000 in
theorem gX5_group_X5_ofCaller : GoodIn wsX5_group (wsV RX5 34 RX5 yX5_ofCaller wsX5_ofCaller) := goodIn_app (goodIn_of _ (by decide +kernel)) ggX5_group_X5_ofCaller
theorem dX5_group_0 : decode cX5_group 0 = .ok (.iload_n 1, 1) := by decide +kernel
theorem dX5_group_1 : decode cX5_group 1 = .ok (.ifCond .lt 12, 3) := by decide +kernel
theorem dX5_group_4 : decode cX5_group 4 = .ok (.iload_n 2, 1) := by decide +kernel
theorem dX5_group_5 : decode cX5_group 5 = .ok (.iconst 0, 1) := by decide +kernel
theorem dX5_group_6 : decode cX5_group 6 = .ok (.iconst 3, 1) := by decide +kernel
theorem dX5_group_7 : decode cX5_group 7 = .ok (.invokestatic 26, 3) := by decide +kernel
theorem dX5_group_10 : decode cX5_group 10 = .ok (.ifCond .ne 5, 3) := by decide +kernel
theorem dX5_group_13 : decode cX5_group 13 = .ok (.iconst (-1), 1) := by decide +kernel
theorem dX5_group_14 : decode cX5_group 14 = .ok (.ireturn, 1) := by decide +kernel
theorem dX5_group_15 : decode cX5_group 15 = .ok (.iconst 0, 1) := by decide +kernel
theorem dX5_group_16 : decode cX5_group 16 = .ok (.istore_n 3, 1) := by decide +kernel
theorem dX5_group_17 : decode cX5_group 17 = .ok (.bipush (-9), 2) := by decide +kernel
theorem dX5_group_19 : decode cX5_group 19 = .ok (.istore 4, 2) := by decide +kernel
theorem dX5_group_21 : decode cX5_group 21 = .ok (.iconst 0, 1) := by decide +kernel
theorem dX5_group_22 : decode cX5_group 22 = .ok (.istore 5, 2) := by decide +kernel
theorem dX5_group_24 : decode cX5_group 24 = .ok (.iload 5, 2) := by decide +kernel
theorem dX5_group_26 : decode cX5_group 26 = .ok (.aload_n 0, 1) := by decide +kernel
theorem dX5_group_27 : decode cX5_group 27 = .ok (.getfield 7, 3) := by decide +kernel
theorem dX5_group_30 : decode cX5_group 30 = .ok (.iconst 2, 1) := by decide +kernel
theorem dX5_group_31 : decode cX5_group 31 = .ok (.iaload, 1) := by decide +kernel
theorem dX5_group_32 : decode cX5_group 32 = .ok (.if_icmp .ge 49, 3) := by decide +kernel
theorem dX5_group_35 : decode cX5_group 35 = .ok (.aload_n 0, 1) := by decide +kernel
theorem dX5_group_36 : decode cX5_group 36 = .ok (.iload 5, 2) := by decide +kernel
theorem dX5_group_38 : decode cX5_group 38 = .ok (.invokevirtual 122, 3) := by decide +kernel
theorem dX5_group_41 : decode cX5_group 41 = .ok (.istore 6, 2) := by decide +kernel
theorem dX5_group_43 : decode cX5_group 43 = .ok (.iload 6, 2) := by decide +kernel
theorem dX5_group_45 : decode cX5_group 45 = .ok (.ifCond .eq 13, 3) := by decide +kernel
theorem dX5_group_48 : decode cX5_group 48 = .ok (.iload_n 3, 1) := by decide +kernel
theorem dX5_group_49 : decode cX5_group 49 = .ok (.iload_n 1, 1) := by decide +kernel
theorem dX5_group_50 : decode cX5_group 50 = .ok (.if_icmp .ne 8, 3) := by decide +kernel
theorem dX5_group_53 : decode cX5_group 53 = .ok (.iload 5, 2) := by decide +kernel
theorem dX5_group_55 : decode cX5_group 55 = .ok (.goto 5, 3) := by decide +kernel
theorem dX5_group_58 : decode cX5_group 58 = .ok (.iload 4, 2) := by decide +kernel
theorem dX5_group_60 : decode cX5_group 60 = .ok (.istore 4, 2) := by decide +kernel
theorem dX5_group_62 : decode cX5_group 62 = .ok (.iload_n 3, 1) := by decide +kernel
theorem dX5_group_63 : decode cX5_group 63 = .ok (.iload 6, 2) := by decide +kernel
theorem dX5_group_65 : decode cX5_group 65 = .ok (.ifCond .eq 7, 3) := by decide +kernel
theorem dX5_group_68 : decode cX5_group 68 = .ok (.iconst 1, 1) := by decide +kernel
theorem dX5_group_69 : decode cX5_group 69 = .ok (.goto 4, 3) := by decide +kernel
theorem dX5_group_72 : decode cX5_group 72 = .ok (.iconst 0, 1) := by decide +kernel
theorem dX5_group_73 : decode cX5_group 73 = .ok (.iadd, 1) := by decide +kernel
theorem dX5_group_74 : decode cX5_group 74 = .ok (.istore_n 3, 1) := by decide +kernel
theorem dX5_group_75 : decode cX5_group 75 = .ok (.iinc 5 1, 3) := by decide +kernel
theorem dX5_group_78 : decode cX5_group 78 = .ok (.goto (-54), 3) := by decide +kernel
theorem dX5_group_81 : decode cX5_group 81 = .ok (.iload 4, 2) := by decide +kernel
theorem dX5_group_83 : decode cX5_group 83 = .ok (.bipush (-9), 2) := by decide +kernel
theorem dX5_group_85 : decode cX5_group 85 = .ok (.if_icmp .eq 8, 3) := by decide +kernel
theorem dX5_group_88 : decode cX5_group 88 = .ok (.iload_n 2, 1) := by decide +kernel
theorem dX5_group_89 : decode cX5_group 89 = .ok (.iconst 3, 1) := by decide +kernel
theorem dX5_group_90 : decode cX5_group 90 = .ok (.if_icmp .ne 6, 3) := by decide +kernel
theorem dX5_group_93 : decode cX5_group 93 = .ok (.iload 4, 2) := by decide +kernel
theorem dX5_group_95 : decode cX5_group 95 = .ok (.ireturn, 1) := by decide +kernel
theorem dX5_group_96 : decode cX5_group 96 = .ok (.iconst 0, 1) := by decide +kernel
theorem dX5_group_97 : decode cX5_group 97 = .ok (.istore 5, 2) := by decide +kernel
theorem dX5_group_99 : decode cX5_group 99 = .ok (.iconst 0, 1) := by decide +kernel
theorem dX5_group_100 : decode cX5_group 100 = .ok (.istore 6, 2) := by decide +kernel
theorem dX5_group_102 : decode cX5_group 102 = .ok (.iload 6, 2) := by decide +kernel
theorem dX5_group_104 : decode cX5_group 104 = .ok (.aload_n 0, 1) := by decide +kernel
theorem dX5_group_105 : decode cX5_group 105 = .ok (.getfield 7, 3) := by decide +kernel
theorem dX5_group_108 : decode cX5_group 108 = .ok (.iconst 2, 1) := by decide +kernel
theorem dX5_group_109 : decode cX5_group 109 = .ok (.iaload, 1) := by decide +kernel
theorem dX5_group_110 : decode cX5_group 110 = .ok (.if_icmp .ge 39, 3) := by decide +kernel
theorem dX5_group_113 : decode cX5_group 113 = .ok (.iload 5, 2) := by decide +kernel
theorem dX5_group_115 : decode cX5_group 115 = .ok (.aload_n 0, 1) := by decide +kernel
theorem dX5_group_116 : decode cX5_group 116 = .ok (.iload 6, 2) := by decide +kernel
theorem dX5_group_118 : decode cX5_group 118 = .ok (.invokevirtual 116, 3) := by decide +kernel
theorem dX5_group_121 : decode cX5_group 121 = .ok (.ifCond .eq 18, 3) := by decide +kernel
theorem dX5_group_124 : decode cX5_group 124 = .ok (.aload_n 0, 1) := by decide +kernel
theorem dX5_group_125 : decode cX5_group 125 = .ok (.iload 6, 2) := by decide +kernel
theorem dX5_group_127 : decode cX5_group 127 = .ok (.iload 4, 2) := by decide +kernel
theorem dX5_group_129 : decode cX5_group 129 = .ok (.invokevirtual 119, 3) := by decide +kernel
theorem dX5_group_132 : decode cX5_group 132 = .ok (.ifCond .eq 7, 3) := by decide +kernel
theorem dX5_group_135 : decode cX5_group 135 = .ok (.iconst 1, 1) := by decide +kernel
theorem dX5_group_136 : decode cX5_group 136 = .ok (.goto 4, 3) := by decide +kernel
theorem dX5_group_139 : decode cX5_group 139 = .ok (.iconst 0, 1) := by decide +kernel
theorem dX5_group_140 : decode cX5_group 140 = .ok (.iadd, 1) := by decide +kernel
theorem dX5_group_141 : decode cX5_group 141 = .ok (.istore 5, 2) := by decide +kernel
theorem dX5_group_143 : decode cX5_group 143 = .ok (.iinc 6 1, 3) := by decide +kernel
theorem dX5_group_146 : decode cX5_group 146 = .ok (.goto (-44), 3) := by decide +kernel
theorem dX5_group_149 : decode cX5_group 149 = .ok (.iload_n 2, 1) := by decide +kernel
theorem dX5_group_150 : decode cX5_group 150 = .ok (.iconst 2, 1) := by decide +kernel
theorem dX5_group_151 : decode cX5_group 151 = .ok (.if_icmp .ne 8, 3) := by decide +kernel
theorem dX5_group_154 : decode cX5_group 154 = .ok (.iload 5, 2) := by decide +kernel
theorem dX5_group_156 : decode cX5_group 156 = .ok (.goto 10, 3) := by decide +kernel
theorem dX5_group_159 : decode cX5_group 159 = .ok (.aload_n 0, 1) := by decide +kernel
theorem dX5_group_160 : decode cX5_group 160 = .ok (.iload 4, 2) := by decide +kernel
theorem dX5_group_162 : decode cX5_group 162 = .ok (.iload_n 2, 1) := by decide +kernel
theorem dX5_group_163 : decode cX5_group 163 = .ok (.invokevirtual 34, 3) := by decide +kernel
theorem dX5_group_166 : decode cX5_group 166 = .ok (.ireturn, 1) := by decide +kernel
set_option maxRecDepth 20000 in
theorem ggX5_cost_X5_isCar : GoodIn wsX5_cost wsX5_isCar := goodIn_r _ [5, 6, 54, 55, 56, 57, 58] (by decide +kernel) (by decide +kernel)
set_option maxRecDepth 20000 in
theorem gX5_cost_X5_isCar : GoodIn wsX5_cost (wsV RX5 98 RX5 yX5_isCar wsX5_isCar) := goodIn_app (goodIn_of _ (by decide +kernel)) ggX5_cost_X5_isCar
set_option maxRecDepth 20000 in
theorem ggX5_cost_X5_isWay : GoodIn wsX5_cost wsX5_isWay := goodIn_r _ [9, 10, 11, 4, 12, 13, 14, 15] (by decide +kernel) (by decide +kernel)
set_option maxRecDepth 20000 in
theorem gX5_cost_X5_isWay : GoodIn wsX5_cost (va_wsS RX5 110 yX5_isWay wsX5_isWay) := goodIn_app (goodIn_of _ (by decide +kernel)) ggX5_cost_X5_isWay
set_option maxRecDepth 20000 in
theorem ggX5_cost_X5_canBeGiven : GoodIn wsX5_cost wsX5_canBeGiven := goodIn_r _ [19, 20, 21, 22, 4, 23, 6, 24, 25, 26, 27, 28, 29, 30, 31, 13, 14, 15, 54, 55, 56, 57, 58] (by decide +kernel) (by decide +kernel)
set_option maxRecDepth 20000 in
theorem gX5_cost_X5_canBeGiven : GoodIn wsX5_cost (wsV RX5 58 RX5 yX5_canBeGiven wsX5_canBeGiven) := goodIn_app (goodIn_of _ (by decide +kernel)) ggX5_cost_X5_canBeGiven
set_option maxRecDepth 20000 in
theorem ggX5_cost_X5_costOf : GoodIn wsX5_cost wsX5_costOf := goodIn_r _ [35, 36, 37, 38, 4, 39, 6, 40, 41, 42, 43, 13, 14, 15, 44, 45, 46, 20, 21, 22, 23, 47, 48, 49, 50, 51, 52, 53, 54, 55, 56, 57, 58] (by decide +kernel) (by decide +kernel)
set_option maxRecDepth 20000 in
theorem gX5_cost_X5_costOf : GoodIn wsX5_cost (wsV RX5 61 RX5 yX5_costOf wsX5_costOf) := goodIn_app (goodIn_of _ (by decide +kernel)) ggX5_cost_X5_costOf
theorem dX5_cost_0 : decode cX5_cost 0 = .ok (.aload_n 0, 1) := by decide +kernel
theorem dX5_cost_1 : decode cX5_cost 1 = .ok (.iload_n 1, 1) := by decide +kernel
theorem dX5_cost_2 : decode cX5_cost 2 = .ok (.invokevirtual 98, 3) := by decide +kernel
theorem dX5_cost_5 : decode cX5_cost 5 = .ok (.ifCond .eq 11, 3) := by decide +kernel
theorem dX5_cost_8 : decode cX5_cost 8 = .ok (.iload_n 2, 1) := by decide +kernel
theorem dX5_cost_9 : decode cX5_cost 9 = .ok (.iload_n 3, 1) := by decide +kernel
theorem dX5_cost_10 : decode cX5_cost 10 = .ok (.invokestatic 110, 3) := by decide +kernel
theorem dX5_cost_13 : decode cX5_cost 13 = .ok (.ifCond .ne 5, 3) := by decide +kernel
theorem dX5_cost_16 : decode cX5_cost 16 = .ok (.iconst (-1), 1) := by decide +kernel
theorem dX5_cost_17 : decode cX5_cost 17 = .ok (.ireturn, 1) := by decide +kernel
theorem dX5_cost_18 : decode cX5_cost 18 = .ok (.aload_n 0, 1) := by decide +kernel
theorem dX5_cost_19 : decode cX5_cost 19 = .ok (.iload_n 1, 1) := by decide +kernel
theorem dX5_cost_20 : decode cX5_cost 20 = .ok (.iload_n 2, 1) := by decide +kernel
theorem dX5_cost_21 : decode cX5_cost 21 = .ok (.iload_n 3, 1) := by decide +kernel
theorem dX5_cost_22 : decode cX5_cost 22 = .ok (.invokevirtual 58, 3) := by decide +kernel
theorem dX5_cost_25 : decode cX5_cost 25 = .ok (.ifCond .eq 13, 3) := by decide +kernel
theorem dX5_cost_28 : decode cX5_cost 28 = .ok (.aload_n 0, 1) := by decide +kernel
theorem dX5_cost_29 : decode cX5_cost 29 = .ok (.iload_n 1, 1) := by decide +kernel
theorem dX5_cost_30 : decode cX5_cost 30 = .ok (.iload_n 2, 1) := by decide +kernel
theorem dX5_cost_31 : decode cX5_cost 31 = .ok (.iload_n 3, 1) := by decide +kernel
theorem dX5_cost_32 : decode cX5_cost 32 = .ok (.invokevirtual 61, 3) := by decide +kernel
theorem dX5_cost_35 : decode cX5_cost 35 = .ok (.goto 5, 3) := by decide +kernel
theorem dX5_cost_38 : decode cX5_cost 38 = .ok (.bipush (-9), 2) := by decide +kernel
theorem dX5_cost_40 : decode cX5_cost 40 = .ok (.ireturn, 1) := by decide +kernel
set_option maxRecDepth 20000 in
theorem ggX5_would_X5_isWay : GoodIn wsX5_would wsX5_isWay := goodIn_r _ [4, 5, 6, 3, 7, 8, 9, 10] (by decide +kernel) (by decide +kernel)
set_option maxRecDepth 20000 in
theorem gX5_would_X5_isWay : GoodIn wsX5_would (va_wsS RX5 110 yX5_isWay wsX5_isWay) := goodIn_app (goodIn_of _ (by decide +kernel)) ggX5_would_X5_isWay
set_option maxRecDepth 20000 in
theorem ggX5_would_X5_best : GoodIn wsX5_would wsX5_best := goodIn_r _ [14, 15, 16, 17, 18, 3, 19, 20, 21, 22, 23, 24, 25, 26, 27, 28, 29, 30, 31, 8, 9, 10, 32, 33, 34, 35, 36, 37, 38, 39, 40, 41, 42, 43, 44, 45, 46, 47, 48, 49, 50, 51, 52, 53, 54, 55, 56, 57, 58] (by decide +kernel) (by decide +kernel)
set_option maxRecDepth 20000 in
theorem gX5_would_X5_best : GoodIn wsX5_would (wsV RX5 65 RX5 yX5_best wsX5_best) := goodIn_app (goodIn_of _ (by decide +kernel)) ggX5_would_X5_best
theorem dX5_would_0 : decode cX5_would 0 = .ok (.iload_n 1, 1) := by decide +kernel
theorem dX5_would_1 : decode cX5_would 1 = .ok (.iload_n 2, 1) := by decide +kernel
theorem dX5_would_2 : decode cX5_would 2 = .ok (.invokestatic 110, 3) := by decide +kernel
theorem dX5_would_5 : decode cX5_would 5 = .ok (.ifCond .eq 12, 3) := by decide +kernel
theorem dX5_would_8 : decode cX5_would 8 = .ok (.aload_n 0, 1) := by decide +kernel
theorem dX5_would_9 : decode cX5_would 9 = .ok (.iload_n 1, 1) := by decide +kernel
theorem dX5_would_10 : decode cX5_would 10 = .ok (.iload_n 2, 1) := by decide +kernel
theorem dX5_would_11 : decode cX5_would 11 = .ok (.invokevirtual 65, 3) := by decide +kernel
theorem dX5_would_14 : decode cX5_would 14 = .ok (.goto 4, 3) := by decide +kernel
theorem dX5_would_17 : decode cX5_would 17 = .ok (.iconst (-1), 1) := by decide +kernel
theorem dX5_would_18 : decode cX5_would 18 = .ok (.ireturn, 1) := by decide +kernel
set_option maxRecDepth 20000 in
theorem ggX5_thereIn_X5_isCaller : GoodIn wsX5_thereIn wsX5_isCaller := goodIn_r _ [7, 1, 92, 93, 94, 95, 96] (by decide +kernel) (by decide +kernel)
set_option maxRecDepth 20000 in
theorem gX5_thereIn_X5_isCaller : GoodIn wsX5_thereIn (wsV RX5 131 RX5 yX5_isCaller wsX5_isCaller) := goodIn_app (goodIn_of _ (by decide +kernel)) ggX5_thereIn_X5_isCaller
set_option maxRecDepth 20000 in
theorem ggX5_thereIn_X5_copies : GoodIn wsX5_thereIn wsX5_copies := goodIn_r _ [10] (by decide +kernel) (by decide +kernel)
set_option maxRecDepth 20000 in
theorem gX5_thereIn_X5_copies : GoodIn wsX5_thereIn (va_wsS RX5 134 yX5_copies wsX5_copies) := goodIn_app (goodIn_of _ (by decide +kernel)) ggX5_thereIn_X5_copies
set_option maxRecDepth 20000 in
theorem ggX5_thereIn_X5_ofCaller : GoodIn wsX5_thereIn wsX5_ofCaller := goodIn_r _ [14, 1, 92, 93, 94, 95, 96] (by decide +kernel) (by decide +kernel)
set_option maxRecDepth 20000 in
theorem gX5_thereIn_X5_ofCaller : GoodIn wsX5_thereIn (wsV RX5 34 RX5 yX5_ofCaller wsX5_ofCaller) := goodIn_app (goodIn_of _ (by decide +kernel)) ggX5_thereIn_X5_ofCaller
set_option maxRecDepth 20000 in
theorem ggX5_thereIn_X5_ticks : GoodIn wsX5_thereIn wsX5_ticks := goodIn_r _ [18, 1, 11, 12, 13, 6, 14, 19, 20, 21, 22, 23, 24, 25, 26, 27, 28, 29, 30, 31, 32, 33, 34, 35, 36, 37, 38, 39, 40, 41, 42, 43, 44, 45, 46, 47, 48, 49, 50, 51, 52, 53, 54, 55, 56, 57, 58, 59, 60, 61, 62, 63, 64, 65, 66, 67, 68, 69, 70, 71, 72, 73, 74, 75, 76, 77, 78, 79, 80, 81, 82, 83, 84, 85, 86, 87, 88, 89, 90, 91, 92, 93, 94, 95, 96] (by decide +kernel) (by decide +kernel)
set_option maxRecDepth 20000 in
theorem gX5_thereIn_X5_ticks : GoodIn wsX5_thereIn (wsV RX5 113 RX5 yX5_ticks wsX5_ticks) := goodIn_app (goodIn_of _ (by decide +kernel)) ggX5_thereIn_X5_ticks
theorem dX5_thereIn_0 : decode cX5_thereIn 0 = .ok (.aload_n 0, 1) := by decide +kernel
theorem dX5_thereIn_1 : decode cX5_thereIn 1 = .ok (.iload_n 1, 1) := by decide +kernel
theorem dX5_thereIn_2 : decode cX5_thereIn 2 = .ok (.invokevirtual 131, 3) := by decide +kernel
theorem dX5_thereIn_5 : decode cX5_thereIn 5 = .ok (.ifCond .ne 5, 3) := by decide +kernel
theorem dX5_thereIn_8 : decode cX5_thereIn 8 = .ok (.iconst (-1), 1) := by decide +kernel
theorem dX5_thereIn_9 : decode cX5_thereIn 9 = .ok (.ireturn, 1) := by decide +kernel
theorem dX5_thereIn_10 : decode cX5_thereIn 10 = .ok (.aload_n 0, 1) := by decide +kernel
theorem dX5_thereIn_11 : decode cX5_thereIn 11 = .ok (.getfield 7, 3) := by decide +kernel
theorem dX5_thereIn_14 : decode cX5_thereIn 14 = .ok (.aload_n 0, 1) := by decide +kernel
theorem dX5_thereIn_15 : decode cX5_thereIn 15 = .ok (.getfield 16, 3) := by decide +kernel
theorem dX5_thereIn_18 : decode cX5_thereIn 18 = .ok (.invokestatic 134, 3) := by decide +kernel
theorem dX5_thereIn_21 : decode cX5_thereIn 21 = .ok (.iconst 0, 1) := by decide +kernel
theorem dX5_thereIn_22 : decode cX5_thereIn 22 = .ok (.istore_n 2, 1) := by decide +kernel
theorem dX5_thereIn_23 : decode cX5_thereIn 23 = .ok (.iload_n 2, 1) := by decide +kernel
theorem dX5_thereIn_24 : decode cX5_thereIn 24 = .ok (.sipush 400, 3) := by decide +kernel
theorem dX5_thereIn_27 : decode cX5_thereIn 27 = .ok (.if_icmp .gt 23, 3) := by decide +kernel
theorem dX5_thereIn_30 : decode cX5_thereIn 30 = .ok (.aload_n 0, 1) := by decide +kernel
theorem dX5_thereIn_31 : decode cX5_thereIn 31 = .ok (.iload_n 1, 1) := by decide +kernel
theorem dX5_thereIn_32 : decode cX5_thereIn 32 = .ok (.iconst 2, 1) := by decide +kernel
theorem dX5_thereIn_33 : decode cX5_thereIn 33 = .ok (.invokevirtual 34, 3) := by decide +kernel
theorem dX5_thereIn_36 : decode cX5_thereIn 36 = .ok (.iconst 3, 1) := by decide +kernel
theorem dX5_thereIn_37 : decode cX5_thereIn 37 = .ok (.if_icmp .eq 13, 3) := by decide +kernel
theorem dX5_thereIn_40 : decode cX5_thereIn 40 = .ok (.aload_n 0, 1) := by decide +kernel
theorem dX5_thereIn_41 : decode cX5_thereIn 41 = .ok (.invokevirtual 113, 3) := by decide +kernel
theorem dX5_thereIn_44 : decode cX5_thereIn 44 = .ok (.iinc 2 1, 3) := by decide +kernel
theorem dX5_thereIn_47 : decode cX5_thereIn 47 = .ok (.goto (-24), 3) := by decide +kernel
theorem dX5_thereIn_50 : decode cX5_thereIn 50 = .ok (.aload_n 0, 1) := by decide +kernel
theorem dX5_thereIn_51 : decode cX5_thereIn 51 = .ok (.getfield 16, 3) := by decide +kernel
theorem dX5_thereIn_54 : decode cX5_thereIn 54 = .ok (.aload_n 0, 1) := by decide +kernel
theorem dX5_thereIn_55 : decode cX5_thereIn 55 = .ok (.getfield 7, 3) := by decide +kernel
theorem dX5_thereIn_58 : decode cX5_thereIn 58 = .ok (.invokestatic 134, 3) := by decide +kernel
theorem dX5_thereIn_61 : decode cX5_thereIn 61 = .ok (.iload_n 2, 1) := by decide +kernel
theorem dX5_thereIn_62 : decode cX5_thereIn 62 = .ok (.sipush 400, 3) := by decide +kernel
theorem dX5_thereIn_65 : decode cX5_thereIn 65 = .ok (.if_icmp .le 8, 3) := by decide +kernel
theorem dX5_thereIn_68 : decode cX5_thereIn 68 = .ok (.bipush (-9), 2) := by decide +kernel
theorem dX5_thereIn_70 : decode cX5_thereIn 70 = .ok (.goto 4, 3) := by decide +kernel
theorem dX5_thereIn_73 : decode cX5_thereIn 73 = .ok (.iload_n 2, 1) := by decide +kernel
theorem dX5_thereIn_74 : decode cX5_thereIn 74 = .ok (.ireturn, 1) := by decide +kernel
set_option maxRecDepth 20000 in
theorem ggX5_waited_X5_ofCaller : GoodIn wsX5_waited wsX5_ofCaller := goodIn_r _ [6, 1, 7, 8, 9, 10, 11] (by decide +kernel) (by decide +kernel)
set_option maxRecDepth 20000 in
theorem gX5_waited_X5_ofCaller : GoodIn wsX5_waited (wsV RX5 34 RX5 yX5_ofCaller wsX5_ofCaller) := goodIn_app (goodIn_of _ (by decide +kernel)) ggX5_waited_X5_ofCaller
theorem dX5_waited_0 : decode cX5_waited 0 = .ok (.aload_n 0, 1) := by decide +kernel
theorem dX5_waited_1 : decode cX5_waited 1 = .ok (.iload_n 1, 1) := by decide +kernel
theorem dX5_waited_2 : decode cX5_waited 2 = .ok (.iconst 2, 1) := by decide +kernel
theorem dX5_waited_3 : decode cX5_waited 3 = .ok (.invokevirtual 34, 3) := by decide +kernel
theorem dX5_waited_6 : decode cX5_waited 6 = .ok (.iconst 2, 1) := by decide +kernel
theorem dX5_waited_7 : decode cX5_waited 7 = .ok (.if_icmp .lt 12, 3) := by decide +kernel
theorem dX5_waited_10 : decode cX5_waited 10 = .ok (.aload_n 0, 1) := by decide +kernel
theorem dX5_waited_11 : decode cX5_waited 11 = .ok (.iload_n 1, 1) := by decide +kernel
theorem dX5_waited_12 : decode cX5_waited 12 = .ok (.iconst 5, 1) := by decide +kernel
theorem dX5_waited_13 : decode cX5_waited 13 = .ok (.invokevirtual 34, 3) := by decide +kernel
theorem dX5_waited_16 : decode cX5_waited 16 = .ok (.goto 9, 3) := by decide +kernel
theorem dX5_waited_19 : decode cX5_waited 19 = .ok (.aload_n 0, 1) := by decide +kernel
theorem dX5_waited_20 : decode cX5_waited 20 = .ok (.getfield 7, 3) := by decide +kernel
theorem dX5_waited_23 : decode cX5_waited 23 = .ok (.iconst 0, 1) := by decide +kernel
theorem dX5_waited_24 : decode cX5_waited 24 = .ok (.iaload, 1) := by decide +kernel
theorem dX5_waited_25 : decode cX5_waited 25 = .ok (.aload_n 0, 1) := by decide +kernel
theorem dX5_waited_26 : decode cX5_waited 26 = .ok (.iload_n 1, 1) := by decide +kernel
theorem dX5_waited_27 : decode cX5_waited 27 = .ok (.iconst 4, 1) := by decide +kernel
theorem dX5_waited_28 : decode cX5_waited 28 = .ok (.invokevirtual 34, 3) := by decide +kernel
theorem dX5_waited_31 : decode cX5_waited 31 = .ok (.isub, 1) := by decide +kernel
theorem dX5_waited_32 : decode cX5_waited 32 = .ok (.ireturn, 1) := by decide +kernel
set_option maxRecDepth 20000 in
theorem ggX5_waits_X5_in : GoodIn wsX5_waits wsX5_in := goodIn_r _ [5] (by decide +kernel) (by decide +kernel)
set_option maxRecDepth 20000 in
theorem gX5_waits_X5_in : GoodIn wsX5_waits (va_wsS RX5 26 yX5_in wsX5_in) := goodIn_app (goodIn_of _ (by decide +kernel)) ggX5_waits_X5_in
set_option maxRecDepth 20000 in
theorem ggX5_waits_X5_waited : GoodIn wsX5_waits wsX5_waited := goodIn_r _ [9, 1, 10, 11, 12, 4, 13, 14, 15, 16, 17, 18] (by decide +kernel) (by decide +kernel)
set_option maxRecDepth 20000 in
theorem gX5_waits_X5_waited : GoodIn wsX5_waits (wsV RX5 138 RX5 yX5_waited wsX5_waited) := goodIn_app (goodIn_of _ (by decide +kernel)) ggX5_waits_X5_waited
theorem dX5_waits_0 : decode cX5_waits 0 = .ok (.iload_n 1, 1) := by decide +kernel
theorem dX5_waits_1 : decode cX5_waits 1 = .ok (.iconst 0, 1) := by decide +kernel
theorem dX5_waits_2 : decode cX5_waits 2 = .ok (.iconst 2, 1) := by decide +kernel
theorem dX5_waits_3 : decode cX5_waits 3 = .ok (.invokestatic 26, 3) := by decide +kernel
theorem dX5_waits_6 : decode cX5_waits 6 = .ok (.ifCond .ne 5, 3) := by decide +kernel
theorem dX5_waits_9 : decode cX5_waits 9 = .ok (.iconst (-1), 1) := by decide +kernel
theorem dX5_waits_10 : decode cX5_waits 10 = .ok (.ireturn, 1) := by decide +kernel
theorem dX5_waits_11 : decode cX5_waits 11 = .ok (.iconst 0, 1) := by decide +kernel
theorem dX5_waits_12 : decode cX5_waits 12 = .ok (.istore_n 2, 1) := by decide +kernel
theorem dX5_waits_13 : decode cX5_waits 13 = .ok (.bipush (-9), 2) := by decide +kernel
theorem dX5_waits_15 : decode cX5_waits 15 = .ok (.istore_n 3, 1) := by decide +kernel
theorem dX5_waits_16 : decode cX5_waits 16 = .ok (.bipush (-9), 2) := by decide +kernel
theorem dX5_waits_18 : decode cX5_waits 18 = .ok (.istore 4, 2) := by decide +kernel
theorem dX5_waits_20 : decode cX5_waits 20 = .ok (.iconst 0, 1) := by decide +kernel
theorem dX5_waits_21 : decode cX5_waits 21 = .ok (.istore 5, 2) := by decide +kernel
theorem dX5_waits_23 : decode cX5_waits 23 = .ok (.iload 5, 2) := by decide +kernel
theorem dX5_waits_25 : decode cX5_waits 25 = .ok (.aload_n 0, 1) := by decide +kernel
theorem dX5_waits_26 : decode cX5_waits 26 = .ok (.getfield 7, 3) := by decide +kernel
theorem dX5_waits_29 : decode cX5_waits 29 = .ok (.iconst 2, 1) := by decide +kernel
theorem dX5_waits_30 : decode cX5_waits 30 = .ok (.iaload, 1) := by decide +kernel
theorem dX5_waits_31 : decode cX5_waits 31 = .ok (.if_icmp .ge 50, 3) := by decide +kernel
theorem dX5_waits_34 : decode cX5_waits 34 = .ok (.aload_n 0, 1) := by decide +kernel
theorem dX5_waits_35 : decode cX5_waits 35 = .ok (.iload 5, 2) := by decide +kernel
theorem dX5_waits_37 : decode cX5_waits 37 = .ok (.invokevirtual 138, 3) := by decide +kernel
theorem dX5_waits_40 : decode cX5_waits 40 = .ok (.istore 6, 2) := by decide +kernel
theorem dX5_waits_42 : decode cX5_waits 42 = .ok (.iload_n 2, 1) := by decide +kernel
theorem dX5_waits_43 : decode cX5_waits 43 = .ok (.iload 6, 2) := by decide +kernel
theorem dX5_waits_45 : decode cX5_waits 45 = .ok (.iadd, 1) := by decide +kernel
theorem dX5_waits_46 : decode cX5_waits 46 = .ok (.istore_n 2, 1) := by decide +kernel
theorem dX5_waits_47 : decode cX5_waits 47 = .ok (.iload 6, 2) := by decide +kernel
theorem dX5_waits_49 : decode cX5_waits 49 = .ok (.iload_n 3, 1) := by decide +kernel
theorem dX5_waits_50 : decode cX5_waits 50 = .ok (.if_icmp .le 8, 3) := by decide +kernel
theorem dX5_waits_53 : decode cX5_waits 53 = .ok (.iload 5, 2) := by decide +kernel
theorem dX5_waits_55 : decode cX5_waits 55 = .ok (.goto 5, 3) := by decide +kernel
theorem dX5_waits_58 : decode cX5_waits 58 = .ok (.iload 4, 2) := by decide +kernel
theorem dX5_waits_60 : decode cX5_waits 60 = .ok (.istore 4, 2) := by decide +kernel
theorem dX5_waits_62 : decode cX5_waits 62 = .ok (.iload 6, 2) := by decide +kernel
theorem dX5_waits_64 : decode cX5_waits 64 = .ok (.iload_n 3, 1) := by decide +kernel
theorem dX5_waits_65 : decode cX5_waits 65 = .ok (.if_icmp .le 8, 3) := by decide +kernel
theorem dX5_waits_68 : decode cX5_waits 68 = .ok (.iload 6, 2) := by decide +kernel
theorem dX5_waits_70 : decode cX5_waits 70 = .ok (.goto 4, 3) := by decide +kernel
theorem dX5_waits_73 : decode cX5_waits 73 = .ok (.iload_n 3, 1) := by decide +kernel
theorem dX5_waits_74 : decode cX5_waits 74 = .ok (.istore_n 3, 1) := by decide +kernel
theorem dX5_waits_75 : decode cX5_waits 75 = .ok (.iinc 5 1, 3) := by decide +kernel
theorem dX5_waits_78 : decode cX5_waits 78 = .ok (.goto (-55), 3) := by decide +kernel
theorem dX5_waits_81 : decode cX5_waits 81 = .ok (.iload_n 1, 1) := by decide +kernel
theorem dX5_waits_82 : decode cX5_waits 82 = .ok (.iconst 2, 1) := by decide +kernel
theorem dX5_waits_83 : decode cX5_waits 83 = .ok (.if_icmp .ne 7, 3) := by decide +kernel
theorem dX5_waits_86 : decode cX5_waits 86 = .ok (.iload_n 2, 1) := by decide +kernel
theorem dX5_waits_87 : decode cX5_waits 87 = .ok (.goto 13, 3) := by decide +kernel
theorem dX5_waits_90 : decode cX5_waits 90 = .ok (.iload_n 1, 1) := by decide +kernel
theorem dX5_waits_91 : decode cX5_waits 91 = .ok (.ifCond .ne 7, 3) := by decide +kernel
theorem dX5_waits_94 : decode cX5_waits 94 = .ok (.iload_n 3, 1) := by decide +kernel
theorem dX5_waits_95 : decode cX5_waits 95 = .ok (.goto 5, 3) := by decide +kernel
theorem dX5_waits_98 : decode cX5_waits 98 = .ok (.iload 4, 2) := by decide +kernel
theorem dX5_waits_100 : decode cX5_waits 100 = .ok (.ireturn, 1) := by decide +kernel
set_option maxRecDepth 20000 in
theorem ggX5_allThere_X5_inAll : GoodIn wsX5_allThere wsX5_inAll := goodIn_r _ [6, 1, 7, 8, 9, 5, 10, 88, 89, 90, 91, 92] (by decide +kernel) (by decide +kernel)
set_option maxRecDepth 20000 in
theorem gX5_allThere_X5_inAll : GoodIn wsX5_allThere (wsV RX5 104 RX5 yX5_inAll wsX5_inAll) := goodIn_app (goodIn_of _ (by decide +kernel)) ggX5_allThere_X5_inAll
set_option maxRecDepth 20000 in
theorem ggX5_allThere_X5_ticks : GoodIn wsX5_allThere wsX5_ticks := goodIn_r _ [14, 1, 7, 8, 9, 5, 10, 15, 16, 17, 18, 19, 20, 21, 22, 23, 24, 25, 26, 27, 28, 29, 30, 31, 32, 33, 34, 35, 36, 37, 38, 39, 40, 41, 42, 43, 44, 45, 46, 47, 48, 49, 50, 51, 52, 53, 54, 55, 56, 57, 58, 59, 60, 61, 62, 63, 64, 65, 66, 67, 68, 69, 70, 71, 72, 73, 74, 75, 76, 77, 78, 79, 80, 81, 82, 83, 84, 85, 86, 87, 88, 89, 90, 91, 92] (by decide +kernel) (by decide +kernel)
set_option maxRecDepth 20000 in
theorem gX5_allThere_X5_ticks : GoodIn wsX5_allThere (wsV RX5 113 RX5 yX5_ticks wsX5_ticks) := goodIn_app (goodIn_of _ (by decide +kernel)) ggX5_allThere_X5_ticks
theorem dX5_allThere_0 : decode cX5_allThere 0 = .ok (.iconst 0, 1) := by decide +kernel
theorem dX5_allThere_1 : decode cX5_allThere 1 = .ok (.istore_n 1, 1) := by decide +kernel
theorem dX5_allThere_2 : decode cX5_allThere 2 = .ok (.iload_n 1, 1) := by decide +kernel
theorem dX5_allThere_3 : decode cX5_allThere 3 = .ok (.sipush 400, 3) := by decide +kernel
theorem dX5_allThere_6 : decode cX5_allThere 6 = .ok (.if_icmp .gt 27, 3) := by decide +kernel
theorem dX5_allThere_9 : decode cX5_allThere 9 = .ok (.aload_n 0, 1) := by decide +kernel
theorem dX5_allThere_10 : decode cX5_allThere 10 = .ok (.iconst 3, 1) := by decide +kernel
theorem dX5_allThere_11 : decode cX5_allThere 11 = .ok (.invokevirtual 104, 3) := by decide +kernel
theorem dX5_allThere_14 : decode cX5_allThere 14 = .ok (.aload_n 0, 1) := by decide +kernel
theorem dX5_allThere_15 : decode cX5_allThere 15 = .ok (.getfield 7, 3) := by decide +kernel
theorem dX5_allThere_18 : decode cX5_allThere 18 = .ok (.iconst 2, 1) := by decide +kernel
theorem dX5_allThere_19 : decode cX5_allThere 19 = .ok (.iaload, 1) := by decide +kernel
theorem dX5_allThere_20 : decode cX5_allThere 20 = .ok (.if_icmp .ge 13, 3) := by decide +kernel
theorem dX5_allThere_23 : decode cX5_allThere 23 = .ok (.aload_n 0, 1) := by decide +kernel
theorem dX5_allThere_24 : decode cX5_allThere 24 = .ok (.invokevirtual 113, 3) := by decide +kernel
theorem dX5_allThere_27 : decode cX5_allThere 27 = .ok (.iinc 1 1, 3) := by decide +kernel
theorem dX5_allThere_30 : decode cX5_allThere 30 = .ok (.goto (-28), 3) := by decide +kernel
theorem dX5_allThere_33 : decode cX5_allThere 33 = .ok (.iload_n 1, 1) := by decide +kernel
theorem dX5_allThere_34 : decode cX5_allThere 34 = .ok (.ireturn, 1) := by decide +kernel
set_option maxRecDepth 20000 in
theorem ggX5_worstCar_X5_in : GoodIn wsX5_worstCar wsX5_in := goodIn_r _ [6] (by decide +kernel) (by decide +kernel)
set_option maxRecDepth 20000 in
theorem gX5_worstCar_X5_in : GoodIn wsX5_worstCar (va_wsS RX5 26 yX5_in wsX5_in) := goodIn_app (goodIn_of _ (by decide +kernel)) ggX5_worstCar_X5_in
set_option maxRecDepth 20000 in
theorem ggX5_worstCar_X5_ofCar : GoodIn wsX5_worstCar wsX5_ofCar := goodIn_r _ [10, 1, 100, 101, 102, 103, 104] (by decide +kernel) (by decide +kernel)
set_option maxRecDepth 20000 in
theorem gX5_worstCar_X5_ofCar : GoodIn wsX5_worstCar (wsV RX5 38 RX5 yX5_ofCar wsX5_ofCar) := goodIn_app (goodIn_of _ (by decide +kernel)) ggX5_worstCar_X5_ofCar
set_option maxRecDepth 20000 in
theorem ggX5_worstCar_X5_copies : GoodIn wsX5_worstCar wsX5_copies := goodIn_r _ [13] (by decide +kernel) (by decide +kernel)
set_option maxRecDepth 20000 in
theorem gX5_worstCar_X5_copies : GoodIn wsX5_worstCar (va_wsS RX5 134 yX5_copies wsX5_copies) := goodIn_app (goodIn_of _ (by decide +kernel)) ggX5_worstCar_X5_copies
set_option maxRecDepth 20000 in
theorem ggX5_worstCar_X5_fails : GoodIn wsX5_worstCar wsX5_fails := goodIn_r _ [17, 1, 18, 19, 20, 5, 21, 3, 4, 6, 22, 23, 24, 25, 7, 8, 9, 10, 26, 27, 28, 29, 30, 31, 32, 33, 100, 101, 102, 103, 104] (by decide +kernel) (by decide +kernel)
set_option maxRecDepth 20000 in
theorem gX5_worstCar_X5_fails : GoodIn wsX5_worstCar (wsV RX5 101 RX5 yX5_fails wsX5_fails) := goodIn_app (goodIn_of _ (by decide +kernel)) ggX5_worstCar_X5_fails
set_option maxRecDepth 20000 in
theorem ggX5_worstCar_X5_allThere : GoodIn wsX5_worstCar wsX5_allThere := goodIn_r _ [37, 1, 38, 39, 40, 5, 41, 18, 19, 20, 21, 42, 43, 44, 45, 46, 47, 48, 49, 50, 51, 52, 53, 54, 55, 56, 57, 7, 8, 9, 10, 58, 59, 60, 61, 62, 63, 64, 65, 3, 4, 6, 66, 67, 68, 69, 70, 71, 72, 73, 74, 75, 76, 77, 78, 79, 80, 81, 82, 83, 26, 27, 28, 29, 84, 85, 86, 87, 88, 89, 90, 91, 22, 23, 24, 25, 92, 93, 94, 95, 96, 97, 98, 99, 30, 31, 32, 33, 100, 101, 102, 103, 104] (by decide +kernel) (by decide +kernel)
set_option maxRecDepth 20000 in
theorem gX5_worstCar_X5_allThere : GoodIn wsX5_worstCar (wsV RX5 141 RX5 yX5_allThere wsX5_allThere) := goodIn_app (goodIn_of _ (by decide +kernel)) ggX5_worstCar_X5_allThere
theorem dX5_worstCar_0 : decode cX5_worstCar 0 = .ok (.iload_n 1, 1) := by decide +kernel
theorem dX5_worstCar_1 : decode cX5_worstCar 1 = .ok (.iconst 0, 1) := by decide +kernel
theorem dX5_worstCar_2 : decode cX5_worstCar 2 = .ok (.iconst 1, 1) := by decide +kernel
theorem dX5_worstCar_3 : decode cX5_worstCar 3 = .ok (.invokestatic 26, 3) := by decide +kernel
theorem dX5_worstCar_6 : decode cX5_worstCar 6 = .ok (.ifCond .ne 5, 3) := by decide +kernel
theorem dX5_worstCar_9 : decode cX5_worstCar 9 = .ok (.iconst (-1), 1) := by decide +kernel
theorem dX5_worstCar_10 : decode cX5_worstCar 10 = .ok (.ireturn, 1) := by decide +kernel
theorem dX5_worstCar_11 : decode cX5_worstCar 11 = .ok (.bipush (-9), 2) := by decide +kernel
theorem dX5_worstCar_13 : decode cX5_worstCar 13 = .ok (.istore_n 2, 1) := by decide +kernel
theorem dX5_worstCar_14 : decode cX5_worstCar 14 = .ok (.bipush (-9), 2) := by decide +kernel
theorem dX5_worstCar_16 : decode cX5_worstCar 16 = .ok (.istore_n 3, 1) := by decide +kernel
theorem dX5_worstCar_17 : decode cX5_worstCar 17 = .ok (.iconst 0, 1) := by decide +kernel
theorem dX5_worstCar_18 : decode cX5_worstCar 18 = .ok (.istore 4, 2) := by decide +kernel
theorem dX5_worstCar_20 : decode cX5_worstCar 20 = .ok (.iload 4, 2) := by decide +kernel
theorem dX5_worstCar_22 : decode cX5_worstCar 22 = .ok (.aload_n 0, 1) := by decide +kernel
theorem dX5_worstCar_23 : decode cX5_worstCar 23 = .ok (.getfield 7, 3) := by decide +kernel
theorem dX5_worstCar_26 : decode cX5_worstCar 26 = .ok (.iconst 1, 1) := by decide +kernel
theorem dX5_worstCar_27 : decode cX5_worstCar 27 = .ok (.iaload, 1) := by decide +kernel
theorem dX5_worstCar_28 : decode cX5_worstCar 28 = .ok (.if_icmp .ge 80, 3) := by decide +kernel
theorem dX5_worstCar_31 : decode cX5_worstCar 31 = .ok (.aload_n 0, 1) := by decide +kernel
theorem dX5_worstCar_32 : decode cX5_worstCar 32 = .ok (.iload 4, 2) := by decide +kernel
theorem dX5_worstCar_34 : decode cX5_worstCar 34 = .ok (.iconst 4, 1) := by decide +kernel
theorem dX5_worstCar_35 : decode cX5_worstCar 35 = .ok (.invokevirtual 38, 3) := by decide +kernel
theorem dX5_worstCar_38 : decode cX5_worstCar 38 = .ok (.iconst 2, 1) := by decide +kernel
theorem dX5_worstCar_39 : decode cX5_worstCar 39 = .ok (.if_icmp .eq 63, 3) := by decide +kernel
theorem dX5_worstCar_42 : decode cX5_worstCar 42 = .ok (.aload_n 0, 1) := by decide +kernel
theorem dX5_worstCar_43 : decode cX5_worstCar 43 = .ok (.getfield 7, 3) := by decide +kernel
theorem dX5_worstCar_46 : decode cX5_worstCar 46 = .ok (.aload_n 0, 1) := by decide +kernel
theorem dX5_worstCar_47 : decode cX5_worstCar 47 = .ok (.getfield 19, 3) := by decide +kernel
theorem dX5_worstCar_50 : decode cX5_worstCar 50 = .ok (.invokestatic 134, 3) := by decide +kernel
theorem dX5_worstCar_53 : decode cX5_worstCar 53 = .ok (.aload_n 0, 1) := by decide +kernel
theorem dX5_worstCar_54 : decode cX5_worstCar 54 = .ok (.iload 4, 2) := by decide +kernel
theorem dX5_worstCar_56 : decode cX5_worstCar 56 = .ok (.invokevirtual 101, 3) := by decide +kernel
theorem dX5_worstCar_59 : decode cX5_worstCar 59 = .ok (.aload_n 0, 1) := by decide +kernel
theorem dX5_worstCar_60 : decode cX5_worstCar 60 = .ok (.invokevirtual 141, 3) := by decide +kernel
theorem dX5_worstCar_63 : decode cX5_worstCar 63 = .ok (.istore 5, 2) := by decide +kernel
theorem dX5_worstCar_65 : decode cX5_worstCar 65 = .ok (.aload_n 0, 1) := by decide +kernel
theorem dX5_worstCar_66 : decode cX5_worstCar 66 = .ok (.getfield 19, 3) := by decide +kernel
theorem dX5_worstCar_69 : decode cX5_worstCar 69 = .ok (.aload_n 0, 1) := by decide +kernel
theorem dX5_worstCar_70 : decode cX5_worstCar 70 = .ok (.getfield 7, 3) := by decide +kernel
theorem dX5_worstCar_73 : decode cX5_worstCar 73 = .ok (.invokestatic 134, 3) := by decide +kernel
theorem dX5_worstCar_76 : decode cX5_worstCar 76 = .ok (.iload 5, 2) := by decide +kernel
theorem dX5_worstCar_78 : decode cX5_worstCar 78 = .ok (.iload_n 3, 1) := by decide +kernel
theorem dX5_worstCar_79 : decode cX5_worstCar 79 = .ok (.if_icmp .le 8, 3) := by decide +kernel
theorem dX5_worstCar_82 : decode cX5_worstCar 82 = .ok (.iload 4, 2) := by decide +kernel
theorem dX5_worstCar_84 : decode cX5_worstCar 84 = .ok (.goto 4, 3) := by decide +kernel
theorem dX5_worstCar_87 : decode cX5_worstCar 87 = .ok (.iload_n 2, 1) := by decide +kernel
theorem dX5_worstCar_88 : decode cX5_worstCar 88 = .ok (.istore_n 2, 1) := by decide +kernel
theorem dX5_worstCar_89 : decode cX5_worstCar 89 = .ok (.iload 5, 2) := by decide +kernel
theorem dX5_worstCar_91 : decode cX5_worstCar 91 = .ok (.iload_n 3, 1) := by decide +kernel
theorem dX5_worstCar_92 : decode cX5_worstCar 92 = .ok (.if_icmp .le 8, 3) := by decide +kernel
theorem dX5_worstCar_95 : decode cX5_worstCar 95 = .ok (.iload 5, 2) := by decide +kernel
theorem dX5_worstCar_97 : decode cX5_worstCar 97 = .ok (.goto 4, 3) := by decide +kernel
theorem dX5_worstCar_100 : decode cX5_worstCar 100 = .ok (.iload_n 3, 1) := by decide +kernel
theorem dX5_worstCar_101 : decode cX5_worstCar 101 = .ok (.istore_n 3, 1) := by decide +kernel
theorem dX5_worstCar_102 : decode cX5_worstCar 102 = .ok (.iinc 4 1, 3) := by decide +kernel
theorem dX5_worstCar_105 : decode cX5_worstCar 105 = .ok (.goto (-85), 3) := by decide +kernel
theorem dX5_worstCar_108 : decode cX5_worstCar 108 = .ok (.iload_n 1, 1) := by decide +kernel
theorem dX5_worstCar_109 : decode cX5_worstCar 109 = .ok (.ifCond .ne 7, 3) := by decide +kernel
theorem dX5_worstCar_112 : decode cX5_worstCar 112 = .ok (.iload_n 2, 1) := by decide +kernel
theorem dX5_worstCar_113 : decode cX5_worstCar 113 = .ok (.goto 4, 3) := by decide +kernel
theorem dX5_worstCar_116 : decode cX5_worstCar 116 = .ok (.iload_n 3, 1) := by decide +kernel
theorem dX5_worstCar_117 : decode cX5_worstCar 117 = .ok (.ireturn, 1) := by decide +kernel
