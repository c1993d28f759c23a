theorem dX5_init_0 : decode cX5_init 0 = .ok (.aload_n 0, 1) := by decide +kernel
theorem dX5_init_1 : decode cX5_init 1 = .ok (.invokespecial 1, 3) := by decide +kernel
theorem dX5_init_4 : decode cX5_init 4 = .ok (.aload_n 0, 1) := by decide +kernel
theorem dX5_init_5 : decode cX5_init 5 = .ok (.sipush 378, 3) := by decide +kernel
theorem dX5_init_8 : decode cX5_init 8 = .ok (.newarray .int, 2) := by decide +kernel
theorem dX5_init_10 : decode cX5_init 10 = .ok (.putfield 7, 3) := by decide +kernel
theorem dX5_init_13 : decode cX5_init 13 = .ok (.aload_n 0, 1) := by decide +kernel
theorem dX5_init_14 : decode cX5_init 14 = .ok (.sipush 1890, 3) := by decide +kernel
theorem dX5_init_17 : decode cX5_init 17 = .ok (.newarray .int, 2) := by decide +kernel
theorem dX5_init_19 : decode cX5_init 19 = .ok (.putfield 13, 3) := by decide +kernel
theorem dX5_init_22 : decode cX5_init 22 = .ok (.aload_n 0, 1) := by decide +kernel
theorem dX5_init_23 : decode cX5_init 23 = .ok (.sipush 378, 3) := by decide +kernel
theorem dX5_init_26 : decode cX5_init 26 = .ok (.newarray .int, 2) := by decide +kernel
theorem dX5_init_28 : decode cX5_init 28 = .ok (.putfield 16, 3) := by decide +kernel
theorem dX5_init_31 : decode cX5_init 31 = .ok (.aload_n 0, 1) := by decide +kernel
theorem dX5_init_32 : decode cX5_init 32 = .ok (.sipush 378, 3) := by decide +kernel
theorem dX5_init_35 : decode cX5_init 35 = .ok (.newarray .int, 2) := by decide +kernel
theorem dX5_init_37 : decode cX5_init 37 = .ok (.putfield 19, 3) := by decide +kernel
theorem dX5_init_40 : decode cX5_init 40 = .ok (.iconst 0, 1) := by decide +kernel
theorem dX5_init_41 : decode cX5_init 41 = .ok (.istore_n 1, 1) := by decide +kernel
theorem dX5_init_42 : decode cX5_init 42 = .ok (.iload_n 1, 1) := by decide +kernel
theorem dX5_init_43 : decode cX5_init 43 = .ok (.bipush 24, 2) := by decide +kernel
theorem dX5_init_45 : decode cX5_init 45 = .ok (.if_icmp .ge 18, 3) := by decide +kernel
theorem dX5_init_48 : decode cX5_init 48 = .ok (.aload_n 0, 1) := by decide +kernel
theorem dX5_init_49 : decode cX5_init 49 = .ok (.getfield 7, 3) := by decide +kernel
theorem dX5_init_52 : decode cX5_init 52 = .ok (.iconst 4, 1) := by decide +kernel
theorem dX5_init_53 : decode cX5_init 53 = .ok (.iload_n 1, 1) := by decide +kernel
theorem dX5_init_54 : decode cX5_init 54 = .ok (.iadd, 1) := by decide +kernel
theorem dX5_init_55 : decode cX5_init 55 = .ok (.iconst 5, 1) := by decide +kernel
theorem dX5_init_56 : decode cX5_init 56 = .ok (.iastore, 1) := by decide +kernel
theorem dX5_init_57 : decode cX5_init 57 = .ok (.iinc 1 1, 3) := by decide +kernel
theorem dX5_init_60 : decode cX5_init 60 = .ok (.goto (-18), 3) := by decide +kernel
theorem dX5_init_63 : decode cX5_init 63 = .ok (.return_, 1) := by decide +kernel
theorem dX5_in_0 : decode cX5_in 0 = .ok (.iload_n 0, 1) := by decide +kernel
theorem dX5_in_1 : decode cX5_in 1 = .ok (.iload_n 1, 1) := by decide +kernel
theorem dX5_in_2 : decode cX5_in 2 = .ok (.if_icmp .lt 12, 3) := by decide +kernel
theorem dX5_in_5 : decode cX5_in 5 = .ok (.iload_n 0, 1) := by decide +kernel
theorem dX5_in_6 : decode cX5_in 6 = .ok (.iload_n 2, 1) := by decide +kernel
theorem dX5_in_7 : decode cX5_in 7 = .ok (.if_icmp .gt 7, 3) := by decide +kernel
theorem dX5_in_10 : decode cX5_in 10 = .ok (.iconst 1, 1) := by decide +kernel
theorem dX5_in_11 : decode cX5_in 11 = .ok (.goto 4, 3) := by decide +kernel
theorem dX5_in_14 : decode cX5_in 14 = .ok (.iconst 0, 1) := by decide +kernel
theorem dX5_in_15 : decode cX5_in 15 = .ok (.ireturn, 1) := by decide +kernel
theorem dX5_acts_0 : decode cX5_acts 0 = .ok (.aload_n 0, 1) := by decide +kernel
theorem dX5_acts_1 : decode cX5_acts 1 = .ok (.getfield 22, 3) := by decide +kernel
theorem dX5_acts_4 : decode cX5_acts 4 = .ok (.iconst 5, 1) := by decide +kernel
theorem dX5_acts_5 : decode cX5_acts 5 = .ok (.if_icmp .ne 44, 3) := by decide +kernel
theorem dX5_acts_8 : decode cX5_acts 8 = .ok (.iconst 0, 1) := by decide +kernel
theorem dX5_acts_9 : decode cX5_acts 9 = .ok (.istore_n 1, 1) := by decide +kernel
theorem dX5_acts_10 : decode cX5_acts 10 = .ok (.iload_n 1, 1) := by decide +kernel
theorem dX5_acts_11 : decode cX5_acts 11 = .ok (.sipush 1512, 3) := by decide +kernel
theorem dX5_acts_14 : decode cX5_acts 14 = .ok (.if_icmp .ge 25, 3) := by decide +kernel
theorem dX5_acts_17 : decode cX5_acts 17 = .ok (.aload_n 0, 1) := by decide +kernel
theorem dX5_acts_18 : decode cX5_acts 18 = .ok (.getfield 13, 3) := by decide +kernel
theorem dX5_acts_21 : decode cX5_acts 21 = .ok (.iload_n 1, 1) := by decide +kernel
theorem dX5_acts_22 : decode cX5_acts 22 = .ok (.aload_n 0, 1) := by decide +kernel
theorem dX5_acts_23 : decode cX5_acts 23 = .ok (.getfield 13, 3) := by decide +kernel
theorem dX5_acts_26 : decode cX5_acts 26 = .ok (.iload_n 1, 1) := by decide +kernel
theorem dX5_acts_27 : decode cX5_acts 27 = .ok (.sipush 378, 3) := by decide +kernel
theorem dX5_acts_30 : decode cX5_acts 30 = .ok (.iadd, 1) := by decide +kernel
theorem dX5_acts_31 : decode cX5_acts 31 = .ok (.iaload, 1) := by decide +kernel
theorem dX5_acts_32 : decode cX5_acts 32 = .ok (.iastore, 1) := by decide +kernel
theorem dX5_acts_33 : decode cX5_acts 33 = .ok (.iinc 1 1, 3) := by decide +kernel
theorem dX5_acts_36 : decode cX5_acts 36 = .ok (.goto (-26), 3) := by decide +kernel
theorem dX5_acts_39 : decode cX5_acts 39 = .ok (.aload_n 0, 1) := by decide +kernel
theorem dX5_acts_40 : decode cX5_acts 40 = .ok (.dup, 1) := by decide +kernel
theorem dX5_acts_41 : decode cX5_acts 41 = .ok (.getfield 22, 3) := by decide +kernel
theorem dX5_acts_44 : decode cX5_acts 44 = .ok (.iconst 1, 1) := by decide +kernel
theorem dX5_acts_45 : decode cX5_acts 45 = .ok (.isub, 1) := by decide +kernel
theorem dX5_acts_46 : decode cX5_acts 46 = .ok (.putfield 22, 3) := by decide +kernel
theorem dX5_acts_49 : decode cX5_acts 49 = .ok (.iconst 0, 1) := by decide +kernel
theorem dX5_acts_50 : decode cX5_acts 50 = .ok (.istore_n 1, 1) := by decide +kernel
theorem dX5_acts_51 : decode cX5_acts 51 = .ok (.iload_n 1, 1) := by decide +kernel
theorem dX5_acts_52 : decode cX5_acts 52 = .ok (.sipush 378, 3) := by decide +kernel
theorem dX5_acts_55 : decode cX5_acts 55 = .ok (.if_icmp .ge 30, 3) := by decide +kernel
theorem dX5_acts_58 : decode cX5_acts 58 = .ok (.aload_n 0, 1) := by decide +kernel
theorem dX5_acts_59 : decode cX5_acts 59 = .ok (.getfield 13, 3) := by decide +kernel
theorem dX5_acts_62 : decode cX5_acts 62 = .ok (.sipush 378, 3) := by decide +kernel
theorem dX5_acts_65 : decode cX5_acts 65 = .ok (.aload_n 0, 1) := by decide +kernel
theorem dX5_acts_66 : decode cX5_acts 66 = .ok (.getfield 22, 3) := by decide +kernel
theorem dX5_acts_69 : decode cX5_acts 69 = .ok (.imul, 1) := by decide +kernel
theorem dX5_acts_70 : decode cX5_acts 70 = .ok (.iload_n 1, 1) := by decide +kernel
theorem dX5_acts_71 : decode cX5_acts 71 = .ok (.iadd, 1) := by decide +kernel
theorem dX5_acts_72 : decode cX5_acts 72 = .ok (.aload_n 0, 1) := by decide +kernel
theorem dX5_acts_73 : decode cX5_acts 73 = .ok (.getfield 7, 3) := by decide +kernel
theorem dX5_acts_76 : decode cX5_acts 76 = .ok (.iload_n 1, 1) := by decide +kernel
theorem dX5_acts_77 : decode cX5_acts 77 = .ok (.iaload, 1) := by decide +kernel
theorem dX5_acts_78 : decode cX5_acts 78 = .ok (.iastore, 1) := by decide +kernel
theorem dX5_acts_79 : decode cX5_acts 79 = .ok (.iinc 1 1, 3) := by decide +kernel
theorem dX5_acts_82 : decode cX5_acts 82 = .ok (.goto (-31), 3) := by decide +kernel
theorem dX5_acts_85 : decode cX5_acts 85 = .ok (.aload_n 0, 1) := by decide +kernel
theorem dX5_acts_86 : decode cX5_acts 86 = .ok (.dup, 1) := by decide +kernel
theorem dX5_acts_87 : decode cX5_acts 87 = .ok (.getfield 22, 3) := by decide +kernel
theorem dX5_acts_90 : decode cX5_acts 90 = .ok (.iconst 1, 1) := by decide +kernel
theorem dX5_acts_91 : decode cX5_acts 91 = .ok (.iadd, 1) := by decide +kernel
theorem dX5_acts_92 : decode cX5_acts 92 = .ok (.putfield 22, 3) := by decide +kernel
theorem dX5_acts_95 : decode cX5_acts 95 = .ok (.return_, 1) := by decide +kernel
theorem dX5_copies_0 : decode cX5_copies 0 = .ok (.iconst 0, 1) := by decide +kernel
theorem dX5_copies_1 : decode cX5_copies 1 = .ok (.istore_n 2, 1) := by decide +kernel
theorem dX5_copies_2 : decode cX5_copies 2 = .ok (.iload_n 2, 1) := by decide +kernel
theorem dX5_copies_3 : decode cX5_copies 3 = .ok (.sipush 378, 3) := by decide +kernel
theorem dX5_copies_6 : decode cX5_copies 6 = .ok (.if_icmp .ge 15, 3) := by decide +kernel
theorem dX5_copies_9 : decode cX5_copies 9 = .ok (.aload_n 1, 1) := by decide +kernel
theorem dX5_copies_10 : decode cX5_copies 10 = .ok (.iload_n 2, 1) := by decide +kernel
theorem dX5_copies_11 : decode cX5_copies 11 = .ok (.aload_n 0, 1) := by decide +kernel
theorem dX5_copies_12 : decode cX5_copies 12 = .ok (.iload_n 2, 1) := by decide +kernel
theorem dX5_copies_13 : decode cX5_copies 13 = .ok (.iaload, 1) := by decide +kernel
theorem dX5_copies_14 : decode cX5_copies 14 = .ok (.iastore, 1) := by decide +kernel
theorem dX5_copies_15 : decode cX5_copies 15 = .ok (.iinc 2 1, 3) := by decide +kernel
theorem dX5_copies_18 : decode cX5_copies 18 = .ok (.goto (-16), 3) := by decide +kernel
theorem dX5_copies_21 : decode cX5_copies 21 = .ok (.return_, 1) := by decide +kernel
theorem dX5_isCar_0 : decode cX5_isCar 0 = .ok (.iload_n 1, 1) := by decide +kernel
theorem dX5_isCar_1 : decode cX5_isCar 1 = .ok (.ifCond .lt 17, 3) := by decide +kernel
theorem dX5_isCar_4 : decode cX5_isCar 4 = .ok (.iload_n 1, 1) := by decide +kernel
theorem dX5_isCar_5 : decode cX5_isCar 5 = .ok (.aload_n 0, 1) := by decide +kernel
theorem dX5_isCar_6 : decode cX5_isCar 6 = .ok (.getfield 7, 3) := by decide +kernel
theorem dX5_isCar_9 : decode cX5_isCar 9 = .ok (.iconst 1, 1) := by decide +kernel
theorem dX5_isCar_10 : decode cX5_isCar 10 = .ok (.iaload, 1) := by decide +kernel
theorem dX5_isCar_11 : decode cX5_isCar 11 = .ok (.if_icmp .ge 7, 3) := by decide +kernel
theorem dX5_isCar_14 : decode cX5_isCar 14 = .ok (.iconst 1, 1) := by decide +kernel
theorem dX5_isCar_15 : decode cX5_isCar 15 = .ok (.goto 4, 3) := by decide +kernel
theorem dX5_isCar_18 : decode cX5_isCar 18 = .ok (.iconst 0, 1) := by decide +kernel
theorem dX5_isCar_19 : decode cX5_isCar 19 = .ok (.ireturn, 1) := by decide +kernel
theorem dX5_isCaller_0 : decode cX5_isCaller 0 = .ok (.iload_n 1, 1) := by decide +kernel
theorem dX5_isCaller_1 : decode cX5_isCaller 1 = .ok (.ifCond .lt 17, 3) := by decide +kernel
theorem dX5_isCaller_4 : decode cX5_isCaller 4 = .ok (.iload_n 1, 1) := by decide +kernel
theorem dX5_isCaller_5 : decode cX5_isCaller 5 = .ok (.aload_n 0, 1) := by decide +kernel
theorem dX5_isCaller_6 : decode cX5_isCaller 6 = .ok (.getfield 7, 3) := by decide +kernel
theorem dX5_isCaller_9 : decode cX5_isCaller 9 = .ok (.iconst 2, 1) := by decide +kernel
theorem dX5_isCaller_10 : decode cX5_isCaller 10 = .ok (.iaload, 1) := by decide +kernel
theorem dX5_isCaller_11 : decode cX5_isCaller 11 = .ok (.if_icmp .ge 7, 3) := by decide +kernel
theorem dX5_isCaller_14 : decode cX5_isCaller 14 = .ok (.iconst 1, 1) := by decide +kernel
theorem dX5_isCaller_15 : decode cX5_isCaller 15 = .ok (.goto 4, 3) := by decide +kernel
theorem dX5_isCaller_18 : decode cX5_isCaller 18 = .ok (.iconst 0, 1) := by decide +kernel
theorem dX5_isCaller_19 : decode cX5_isCaller 19 = .ok (.ireturn, 1) := by decide +kernel
set_option maxRecDepth 20000 in
theorem ggX5_isFloor_X5_in : GoodIn wsX5_isFloor wsX5_in := goodIn_r _ [4] (by decide +kernel) (by decide +kernel)
set_option maxRecDepth 20000 in
theorem gX5_isFloor_X5_in : GoodIn wsX5_isFloor (va_wsS RX5 26 yX5_in wsX5_in) := goodIn_app (goodIn_of _ (by decide +kernel)) ggX5_isFloor_X5_in
theorem dX5_isFloor_0 : decode cX5_isFloor 0 = .ok (.iload_n 0, 1) := by decide +kernel
theorem dX5_isFloor_1 : decode cX5_isFloor 1 = .ok (.iconst 0, 1) := by decide +kernel
theorem dX5_isFloor_2 : decode cX5_isFloor 2 = .ok (.bipush 15, 2) := by decide +kernel
theorem dX5_isFloor_4 : decode cX5_isFloor 4 = .ok (.invokestatic 26, 3) := by decide +kernel
theorem dX5_isFloor_7 : decode cX5_isFloor 7 = .ok (.ireturn, 1) := by decide +kernel
theorem dX5_ofCar_0 : decode cX5_ofCar 0 = .ok (.aload_n 0, 1) := by decide +kernel
theorem dX5_ofCar_1 : decode cX5_ofCar 1 = .ok (.getfield 7, 3) := by decide +kernel
theorem dX5_ofCar_4 : decode cX5_ofCar 4 = .ok (.bipush 28, 2) := by decide +kernel
theorem dX5_ofCar_6 : decode cX5_ofCar 6 = .ok (.bipush 6, 2) := by decide +kernel
theorem dX5_ofCar_8 : decode cX5_ofCar 8 = .ok (.iload_n 1, 1) := by decide +kernel
theorem dX5_ofCar_9 : decode cX5_ofCar 9 = .ok (.imul, 1) := by decide +kernel
theorem dX5_ofCar_10 : decode cX5_ofCar 10 = .ok (.iadd, 1) := by decide +kernel
theorem dX5_ofCar_11 : decode cX5_ofCar 11 = .ok (.iload_n 2, 1) := by decide +kernel
theorem dX5_ofCar_12 : decode cX5_ofCar 12 = .ok (.iadd, 1) := by decide +kernel
theorem dX5_ofCar_13 : decode cX5_ofCar 13 = .ok (.iaload, 1) := by decide +kernel
theorem dX5_ofCar_14 : decode cX5_ofCar 14 = .ok (.ireturn, 1) := by decide +kernel
theorem dX5_putsCar_0 : decode cX5_putsCar 0 = .ok (.aload_n 0, 1) := by decide +kernel
theorem dX5_putsCar_1 : decode cX5_putsCar 1 = .ok (.getfield 7, 3) := by decide +kernel
theorem dX5_putsCar_4 : decode cX5_putsCar 4 = .ok (.bipush 28, 2) := by decide +kernel
theorem dX5_putsCar_6 : decode cX5_putsCar 6 = .ok (.bipush 6, 2) := by decide +kernel
theorem dX5_putsCar_8 : decode cX5_putsCar 8 = .ok (.iload_n 1, 1) := by decide +kernel
theorem dX5_putsCar_9 : decode cX5_putsCar 9 = .ok (.imul, 1) := by decide +kernel
theorem dX5_putsCar_10 : decode cX5_putsCar 10 = .ok (.iadd, 1) := by decide +kernel
theorem dX5_putsCar_11 : decode cX5_putsCar 11 = .ok (.iload_n 2, 1) := by decide +kernel
theorem dX5_putsCar_12 : decode cX5_putsCar 12 = .ok (.iadd, 1) := by decide +kernel
theorem dX5_putsCar_13 : decode cX5_putsCar 13 = .ok (.iload_n 3, 1) := by decide +kernel
theorem dX5_putsCar_14 : decode cX5_putsCar 14 = .ok (.iastore, 1) := by decide +kernel
theorem dX5_putsCar_15 : decode cX5_putsCar 15 = .ok (.return_, 1) := by decide +kernel
theorem dX5_ofCaller_0 : decode cX5_ofCaller 0 = .ok (.aload_n 0, 1) := by decide +kernel
theorem dX5_ofCaller_1 : decode cX5_ofCaller 1 = .ok (.getfield 7, 3) := by decide +kernel
theorem dX5_ofCaller_4 : decode cX5_ofCaller 4 = .ok (.bipush 58, 2) := by decide +kernel
theorem dX5_ofCaller_6 : decode cX5_ofCaller 6 = .ok (.bipush 8, 2) := by decide +kernel
theorem dX5_ofCaller_8 : decode cX5_ofCaller 8 = .ok (.iload_n 1, 1) := by decide +kernel
theorem dX5_ofCaller_9 : decode cX5_ofCaller 9 = .ok (.imul, 1) := by decide +kernel
theorem dX5_ofCaller_10 : decode cX5_ofCaller 10 = .ok (.iadd, 1) := by decide +kernel
theorem dX5_ofCaller_11 : decode cX5_ofCaller 11 = .ok (.iload_n 2, 1) := by decide +kernel
theorem dX5_ofCaller_12 : decode cX5_ofCaller 12 = .ok (.iadd, 1) := by decide +kernel
theorem dX5_ofCaller_13 : decode cX5_ofCaller 13 = .ok (.iaload, 1) := by decide +kernel
theorem dX5_ofCaller_14 : decode cX5_ofCaller 14 = .ok (.ireturn, 1) := by decide +kernel
theorem dX5_puts_0 : decode cX5_puts 0 = .ok (.aload_n 0, 1) := by decide +kernel
theorem dX5_puts_1 : decode cX5_puts 1 = .ok (.getfield 7, 3) := by decide +kernel
theorem dX5_puts_4 : decode cX5_puts 4 = .ok (.bipush 58, 2) := by decide +kernel
theorem dX5_puts_6 : decode cX5_puts 6 = .ok (.bipush 8, 2) := by decide +kernel
theorem dX5_puts_8 : decode cX5_puts 8 = .ok (.iload_n 1, 1) := by decide +kernel
theorem dX5_puts_9 : decode cX5_puts 9 = .ok (.imul, 1) := by decide +kernel
theorem dX5_puts_10 : decode cX5_puts 10 = .ok (.iadd, 1) := by decide +kernel
theorem dX5_puts_11 : decode cX5_puts 11 = .ok (.iload_n 2, 1) := by decide +kernel
theorem dX5_puts_12 : decode cX5_puts 12 = .ok (.iadd, 1) := by decide +kernel
theorem dX5_puts_13 : decode cX5_puts 13 = .ok (.iload_n 3, 1) := by decide +kernel
theorem dX5_puts_14 : decode cX5_puts 14 = .ok (.iastore, 1) := by decide +kernel
theorem dX5_puts_15 : decode cX5_puts 15 = .ok (.return_, 1) := by decide +kernel
theorem dX5_hour_0 : decode cX5_hour 0 = .ok (.aload_n 0, 1) := by decide +kernel
theorem dX5_hour_1 : decode cX5_hour 1 = .ok (.getfield 7, 3) := by decide +kernel
theorem dX5_hour_4 : decode cX5_hour 4 = .ok (.iconst 0, 1) := by decide +kernel
theorem dX5_hour_5 : decode cX5_hour 5 = .ok (.iaload, 1) := by decide +kernel
theorem dX5_hour_6 : decode cX5_hour 6 = .ok (.bipush 60, 2) := by decide +kernel
theorem dX5_hour_8 : decode cX5_hour 8 = .ok (.idiv, 1) := by decide +kernel
theorem dX5_hour_9 : decode cX5_hour 9 = .ok (.bipush 24, 2) := by decide +kernel
theorem dX5_hour_11 : decode cX5_hour 11 = .ok (.irem, 1) := by decide +kernel
theorem dX5_hour_12 : decode cX5_hour 12 = .ok (.ireturn, 1) := by decide +kernel
set_option maxRecDepth 20000 in
theorem ggX5_isAwake_X5_hour : GoodIn wsX5_isAwake wsX5_hour := goodIn_r _ [6, 1, 7, 8, 9, 10, 11] (by decide +kernel) (by decide +kernel)
set_option maxRecDepth 20000 in
theorem gX5_isAwake_X5_hour : GoodIn wsX5_isAwake (wsV RX5 30 RX5 yX5_hour wsX5_hour) := goodIn_app (goodIn_of _ (by decide +kernel)) ggX5_isAwake_X5_hour
theorem dX5_isAwake_0 : decode cX5_isAwake 0 = .ok (.iload_n 1, 1) := by decide +kernel
theorem dX5_isAwake_1 : decode cX5_isAwake 1 = .ok (.aload_n 0, 1) := by decide +kernel
theorem dX5_isAwake_2 : decode cX5_isAwake 2 = .ok (.getfield 7, 3) := by decide +kernel
theorem dX5_isAwake_5 : decode cX5_isAwake 5 = .ok (.iconst 4, 1) := by decide +kernel
theorem dX5_isAwake_6 : decode cX5_isAwake 6 = .ok (.aload_n 0, 1) := by decide +kernel
theorem dX5_isAwake_7 : decode cX5_isAwake 7 = .ok (.invokevirtual 30, 3) := by decide +kernel
theorem dX5_isAwake_10 : decode cX5_isAwake 10 = .ok (.iadd, 1) := by decide +kernel
theorem dX5_isAwake_11 : decode cX5_isAwake 11 = .ok (.iaload, 1) := by decide +kernel
theorem dX5_isAwake_12 : decode cX5_isAwake 12 = .ok (.if_icmp .ge 7, 3) := by decide +kernel
theorem dX5_isAwake_15 : decode cX5_isAwake 15 = .ok (.iconst 1, 1) := by decide +kernel
theorem dX5_isAwake_16 : decode cX5_isAwake 16 = .ok (.goto 4, 3) := by decide +kernel
theorem dX5_isAwake_19 : decode cX5_isAwake 19 = .ok (.iconst 0, 1) := by decide +kernel
theorem dX5_isAwake_20 : decode cX5_isAwake 20 = .ok (.ireturn, 1) := by decide +kernel
set_option maxRecDepth 20000 in
theorem ggX5_many_X5_ofCaller : GoodIn wsX5_many wsX5_ofCaller := goodIn_r _ [6, 1, 7, 8, 9, 10, 11] (by decide +kernel) (by decide +kernel)
set_option maxRecDepth 20000 in
theorem gX5_many_X5_ofCaller : GoodIn wsX5_many (wsV RX5 34 RX5 yX5_ofCaller wsX5_ofCaller) := goodIn_app (goodIn_of _ (by decide +kernel)) ggX5_many_X5_ofCaller
theorem dX5_many_0 : decode cX5_many 0 = .ok (.iconst 0, 1) := by decide +kernel
theorem dX5_many_1 : decode cX5_many 1 = .ok (.istore_n 3, 1) := by decide +kernel
theorem dX5_many_2 : decode cX5_many 2 = .ok (.iconst 0, 1) := by decide +kernel
theorem dX5_many_3 : decode cX5_many 3 = .ok (.istore 4, 2) := by decide +kernel
theorem dX5_many_5 : decode cX5_many 5 = .ok (.iload 4, 2) := by decide +kernel
theorem dX5_many_7 : decode cX5_many 7 = .ok (.aload_n 0, 1) := by decide +kernel
theorem dX5_many_8 : decode cX5_many 8 = .ok (.getfield 7, 3) := by decide +kernel
theorem dX5_many_11 : decode cX5_many 11 = .ok (.iconst 2, 1) := by decide +kernel
theorem dX5_many_12 : decode cX5_many 12 = .ok (.iaload, 1) := by decide +kernel
theorem dX5_many_13 : decode cX5_many 13 = .ok (.if_icmp .ge 39, 3) := by decide +kernel
theorem dX5_many_16 : decode cX5_many 16 = .ok (.iload_n 3, 1) := by decide +kernel
theorem dX5_many_17 : decode cX5_many 17 = .ok (.aload_n 0, 1) := by decide +kernel
theorem dX5_many_18 : decode cX5_many 18 = .ok (.iload 4, 2) := by decide +kernel
theorem dX5_many_20 : decode cX5_many 20 = .ok (.iconst 2, 1) := by decide +kernel
theorem dX5_many_21 : decode cX5_many 21 = .ok (.invokevirtual 34, 3) := by decide +kernel
theorem dX5_many_24 : decode cX5_many 24 = .ok (.iload_n 2, 1) := by decide +kernel
theorem dX5_many_25 : decode cX5_many 25 = .ok (.if_icmp .ne 18, 3) := by decide +kernel
theorem dX5_many_28 : decode cX5_many 28 = .ok (.aload_n 0, 1) := by decide +kernel
theorem dX5_many_29 : decode cX5_many 29 = .ok (.iload 4, 2) := by decide +kernel
theorem dX5_many_31 : decode cX5_many 31 = .ok (.iconst 3, 1) := by decide +kernel
theorem dX5_many_32 : decode cX5_many 32 = .ok (.invokevirtual 34, 3) := by decide +kernel
theorem dX5_many_35 : decode cX5_many 35 = .ok (.iload_n 1, 1) := by decide +kernel
theorem dX5_many_36 : decode cX5_many 36 = .ok (.if_icmp .ne 7, 3) := by decide +kernel
theorem dX5_many_39 : decode cX5_many 39 = .ok (.iconst 1, 1) := by decide +kernel
theorem dX5_many_40 : decode cX5_many 40 = .ok (.goto 4, 3) := by decide +kernel
theorem dX5_many_43 : decode cX5_many 43 = .ok (.iconst 0, 1) := by decide +kernel
theorem dX5_many_44 : decode cX5_many 44 = .ok (.iadd, 1) := by decide +kernel
theorem dX5_many_45 : decode cX5_many 45 = .ok (.istore_n 3, 1) := by decide +kernel
theorem dX5_many_46 : decode cX5_many 46 = .ok (.iinc 4 1, 3) := by decide +kernel
theorem dX5_many_49 : decode cX5_many 49 = .ok (.goto (-44), 3) := by decide +kernel
theorem dX5_many_52 : decode cX5_many 52 = .ok (.iload_n 3, 1) := by decide +kernel
theorem dX5_many_53 : decode cX5_many 53 = .ok (.ireturn, 1) := by decide +kernel
set_option maxRecDepth 20000 in
theorem ggX5_inAll_X5_ofCaller : GoodIn wsX5_inAll wsX5_ofCaller := goodIn_r _ [6, 1, 7, 8, 9, 10, 11] (by decide +kernel) (by decide +kernel)
set_option maxRecDepth 20000 in
theorem gX5_inAll_X5_ofCaller : GoodIn wsX5_inAll (wsV RX5 34 RX5 yX5_ofCaller wsX5_ofCaller) := goodIn_app (goodIn_of _ (by decide +kernel)) ggX5_inAll_X5_ofCaller
theorem dX5_inAll_0 : decode cX5_inAll 0 = .ok (.iconst 0, 1) := by decide +kernel
theorem dX5_inAll_1 : decode cX5_inAll 1 = .ok (.istore_n 2, 1) := by decide +kernel
theorem dX5_inAll_2 : decode cX5_inAll 2 = .ok (.iconst 0, 1) := by decide +kernel
theorem dX5_inAll_3 : decode cX5_inAll 3 = .ok (.istore_n 3, 1) := by decide +kernel
theorem dX5_inAll_4 : decode cX5_inAll 4 = .ok (.iload_n 3, 1) := by decide +kernel
theorem dX5_inAll_5 : decode cX5_inAll 5 = .ok (.aload_n 0, 1) := by decide +kernel
theorem dX5_inAll_6 : decode cX5_inAll 6 = .ok (.getfield 7, 3) := by decide +kernel
theorem dX5_inAll_9 : decode cX5_inAll 9 = .ok (.iconst 2, 1) := by decide +kernel
theorem dX5_inAll_10 : decode cX5_inAll 10 = .ok (.iaload, 1) := by decide +kernel
theorem dX5_inAll_11 : decode cX5_inAll 11 = .ok (.if_icmp .ge 27, 3) := by decide +kernel
theorem dX5_inAll_14 : decode cX5_inAll 14 = .ok (.iload_n 2, 1) := by decide +kernel
theorem dX5_inAll_15 : decode cX5_inAll 15 = .ok (.aload_n 0, 1) := by decide +kernel
theorem dX5_inAll_16 : decode cX5_inAll 16 = .ok (.iload_n 3, 1) := by decide +kernel
theorem dX5_inAll_17 : decode cX5_inAll 17 = .ok (.iconst 2, 1) := by decide +kernel
theorem dX5_inAll_18 : decode cX5_inAll 18 = .ok (.invokevirtual 34, 3) := by decide +kernel
theorem dX5_inAll_21 : decode cX5_inAll 21 = .ok (.iload_n 1, 1) := by decide +kernel
theorem dX5_inAll_22 : decode cX5_inAll 22 = .ok (.if_icmp .ne 7, 3) := by decide +kernel
theorem dX5_inAll_25 : decode cX5_inAll 25 = .ok (.iconst 1, 1) := by decide +kernel
theorem dX5_inAll_26 : decode cX5_inAll 26 = .ok (.goto 4, 3) := by decide +kernel
theorem dX5_inAll_29 : decode cX5_inAll 29 = .ok (.iconst 0, 1) := by decide +kernel
theorem dX5_inAll_30 : decode cX5_inAll 30 = .ok (.iadd, 1) := by decide +kernel
theorem dX5_inAll_31 : decode cX5_inAll 31 = .ok (.istore_n 2, 1) := by decide +kernel
theorem dX5_inAll_32 : decode cX5_inAll 32 = .ok (.iinc 3 1, 3) := by decide +kernel
theorem dX5_inAll_35 : decode cX5_inAll 35 = .ok (.goto (-31), 3) := by decide +kernel
theorem dX5_inAll_38 : decode cX5_inAll 38 = .ok (.iload_n 2, 1) := by decide +kernel
theorem dX5_inAll_39 : decode cX5_inAll 39 = .ok (.ireturn, 1) := by decide +kernel
set_option maxRecDepth 20000 in
theorem ggX5_stops_X5_ofCaller : GoodIn wsX5_stops wsX5_ofCaller := goodIn_r _ [6, 1, 10, 11, 12, 13, 14] (by decide +kernel) (by decide +kernel)
set_option maxRecDepth 20000 in
theorem gX5_stops_X5_ofCaller : GoodIn wsX5_stops (wsV RX5 34 RX5 yX5_ofCaller wsX5_ofCaller) := goodIn_app (goodIn_of _ (by decide +kernel)) ggX5_stops_X5_ofCaller
set_option maxRecDepth 20000 in
theorem ggX5_stops_X5_in : GoodIn wsX5_stops wsX5_in := goodIn_r _ [9] (by decide +kernel) (by decide +kernel)
set_option maxRecDepth 20000 in
theorem gX5_stops_X5_in : GoodIn wsX5_stops (va_wsS RX5 26 yX5_in wsX5_in) := goodIn_app (goodIn_of _ (by decide +kernel)) ggX5_stops_X5_in
theorem dX5_stops_0 : decode cX5_stops 0 = .ok (.iconst 0, 1) := by decide +kernel
theorem dX5_stops_1 : decode cX5_stops 1 = .ok (.istore_n 2, 1) := by decide +kernel
theorem dX5_stops_2 : decode cX5_stops 2 = .ok (.iconst 0, 1) := by decide +kernel
theorem dX5_stops_3 : decode cX5_stops 3 = .ok (.istore_n 3, 1) := by decide +kernel
theorem dX5_stops_4 : decode cX5_stops 4 = .ok (.iload_n 3, 1) := by decide +kernel
theorem dX5_stops_5 : decode cX5_stops 5 = .ok (.aload_n 0, 1) := by decide +kernel
theorem dX5_stops_6 : decode cX5_stops 6 = .ok (.getfield 7, 3) := by decide +kernel
theorem dX5_stops_9 : decode cX5_stops 9 = .ok (.iconst 2, 1) := by decide +kernel
theorem dX5_stops_10 : decode cX5_stops 10 = .ok (.iaload, 1) := by decide +kernel
theorem dX5_stops_11 : decode cX5_stops 11 = .ok (.if_icmp .ge 67, 3) := by decide +kernel
theorem dX5_stops_14 : decode cX5_stops 14 = .ok (.aload_n 0, 1) := by decide +kernel
theorem dX5_stops_15 : decode cX5_stops 15 = .ok (.iload_n 3, 1) := by decide +kernel
theorem dX5_stops_16 : decode cX5_stops 16 = .ok (.iconst 3, 1) := by decide +kernel
theorem dX5_stops_17 : decode cX5_stops 17 = .ok (.invokevirtual 34, 3) := by decide +kernel
theorem dX5_stops_20 : decode cX5_stops 20 = .ok (.iload_n 1, 1) := by decide +kernel
theorem dX5_stops_21 : decode cX5_stops 21 = .ok (.if_icmp .ne 51, 3) := by decide +kernel
theorem dX5_stops_24 : decode cX5_stops 24 = .ok (.aload_n 0, 1) := by decide +kernel
theorem dX5_stops_25 : decode cX5_stops 25 = .ok (.iload_n 3, 1) := by decide +kernel
theorem dX5_stops_26 : decode cX5_stops 26 = .ok (.iconst 2, 1) := by decide +kernel
theorem dX5_stops_27 : decode cX5_stops 27 = .ok (.invokevirtual 34, 3) := by decide +kernel
theorem dX5_stops_30 : decode cX5_stops 30 = .ok (.iconst 1, 1) := by decide +kernel
theorem dX5_stops_31 : decode cX5_stops 31 = .ok (.iconst 2, 1) := by decide +kernel
theorem dX5_stops_32 : decode cX5_stops 32 = .ok (.invokestatic 26, 3) := by decide +kernel
theorem dX5_stops_35 : decode cX5_stops 35 = .ok (.ifCond .eq 37, 3) := by decide +kernel
theorem dX5_stops_38 : decode cX5_stops 38 = .ok (.iload_n 2, 1) := by decide +kernel
theorem dX5_stops_39 : decode cX5_stops 39 = .ok (.iconst 1, 1) := by decide +kernel
theorem dX5_stops_40 : decode cX5_stops 40 = .ok (.aload_n 0, 1) := by decide +kernel
theorem dX5_stops_41 : decode cX5_stops 41 = .ok (.iload_n 3, 1) := by decide +kernel
theorem dX5_stops_42 : decode cX5_stops 42 = .ok (.iconst 1, 1) := by decide +kernel
theorem dX5_stops_43 : decode cX5_stops 43 = .ok (.invokevirtual 34, 3) := by decide +kernel
theorem dX5_stops_46 : decode cX5_stops 46 = .ok (.ishl, 1) := by decide +kernel
theorem dX5_stops_47 : decode cX5_stops 47 = .ok (.aload_n 0, 1) := by decide +kernel
theorem dX5_stops_48 : decode cX5_stops 48 = .ok (.iload_n 3, 1) := by decide +kernel
theorem dX5_stops_49 : decode cX5_stops 49 = .ok (.iconst 2, 1) := by decide +kernel
theorem dX5_stops_50 : decode cX5_stops 50 = .ok (.invokevirtual 34, 3) := by decide +kernel
theorem dX5_stops_53 : decode cX5_stops 53 = .ok (.iconst 1, 1) := by decide +kernel
theorem dX5_stops_54 : decode cX5_stops 54 = .ok (.if_icmp .ne 14, 3) := by decide +kernel
theorem dX5_stops_57 : decode cX5_stops 57 = .ok (.iconst 1, 1) := by decide +kernel
theorem dX5_stops_58 : decode cX5_stops 58 = .ok (.aload_n 0, 1) := by decide +kernel
theorem dX5_stops_59 : decode cX5_stops 59 = .ok (.iload_n 3, 1) := by decide +kernel
theorem dX5_stops_60 : decode cX5_stops 60 = .ok (.iconst 0, 1) := by decide +kernel
theorem dX5_stops_61 : decode cX5_stops 61 = .ok (.invokevirtual 34, 3) := by decide +kernel
theorem dX5_stops_64 : decode cX5_stops 64 = .ok (.ishl, 1) := by decide +kernel
theorem dX5_stops_65 : decode cX5_stops 65 = .ok (.goto 4, 3) := by decide +kernel
theorem dX5_stops_68 : decode cX5_stops 68 = .ok (.iconst 0, 1) := by decide +kernel
theorem dX5_stops_69 : decode cX5_stops 69 = .ok (.ior, 1) := by decide +kernel
theorem dX5_stops_70 : decode cX5_stops 70 = .ok (.ior, 1) := by decide +kernel
theorem dX5_stops_71 : decode cX5_stops 71 = .ok (.istore_n 2, 1) := by decide +kernel
theorem dX5_stops_72 : decode cX5_stops 72 = .ok (.iinc 3 1, 3) := by decide +kernel
theorem dX5_stops_75 : decode cX5_stops 75 = .ok (.goto (-71), 3) := by decide +kernel
theorem dX5_stops_78 : decode cX5_stops 78 = .ok (.iload_n 2, 1) := by decide +kernel
theorem dX5_stops_79 : decode cX5_stops 79 = .ok (.ireturn, 1) := by decide +kernel
theorem dX5_ones_0 : decode cX5_ones 0 = .ok (.iconst 0, 1) := by decide +kernel
theorem dX5_ones_1 : decode cX5_ones 1 = .ok (.istore_n 1, 1) := by decide +kernel
theorem dX5_ones_2 : decode cX5_ones 2 = .ok (.iconst 0, 1) := by decide +kernel
theorem dX5_ones_3 : decode cX5_ones 3 = .ok (.istore_n 2, 1) := by decide +kernel
theorem dX5_ones_4 : decode cX5_ones 4 = .ok (.iload_n 2, 1) := by decide +kernel
theorem dX5_ones_5 : decode cX5_ones 5 = .ok (.bipush 16, 2) := by decide +kernel
theorem dX5_ones_7 : decode cX5_ones 7 = .ok (.if_icmp .ge 17, 3) := by decide +kernel
theorem dX5_ones_10 : decode cX5_ones 10 = .ok (.iload_n 1, 1) := by decide +kernel
theorem dX5_ones_11 : decode cX5_ones 11 = .ok (.iload_n 0, 1) := by decide +kernel
theorem dX5_ones_12 : decode cX5_ones 12 = .ok (.iload_n 2, 1) := by decide +kernel
theorem dX5_ones_13 : decode cX5_ones 13 = .ok (.ishr, 1) := by decide +kernel
theorem dX5_ones_14 : decode cX5_ones 14 = .ok (.iconst 1, 1) := by decide +kernel
theorem dX5_ones_15 : decode cX5_ones 15 = .ok (.iand, 1) := by decide +kernel
theorem dX5_ones_16 : decode cX5_ones 16 = .ok (.iadd, 1) := by decide +kernel
theorem dX5_ones_17 : decode cX5_ones 17 = .ok (.istore_n 1, 1) := by decide +kernel
theorem dX5_ones_18 : decode cX5_ones 18 = .ok (.iinc 2 1, 3) := by decide +kernel
theorem dX5_ones_21 : decode cX5_ones 21 = .ok (.goto (-17), 3) := by decide +kernel
theorem dX5_ones_24 : decode cX5_ones 24 = .ok (.iload_n 1, 1) := by decide +kernel
theorem dX5_ones_25 : decode cX5_ones 25 = .ok (.ireturn, 1) := by decide +kernel
theorem dX5_far_0 : decode cX5_far 0 = .ok (.iload_n 0, 1) := by decide +kernel
theorem dX5_far_1 : decode cX5_far 1 = .ok (.iload_n 1, 1) := by decide +kernel
theorem dX5_far_2 : decode cX5_far 2 = .ok (.if_icmp .ge 9, 3) := by decide +kernel
theorem dX5_far_5 : decode cX5_far 5 = .ok (.iload_n 1, 1) := by decide +kernel
theorem dX5_far_6 : decode cX5_far 6 = .ok (.iload_n 0, 1) := by decide +kernel
theorem dX5_far_7 : decode cX5_far 7 = .ok (.isub, 1) := by decide +kernel
theorem dX5_far_8 : decode cX5_far 8 = .ok (.goto 6, 3) := by decide +kernel
theorem dX5_far_11 : decode cX5_far 11 = .ok (.iload_n 0, 1) := by decide +kernel
theorem dX5_far_12 : decode cX5_far 12 = .ok (.iload_n 1, 1) := by decide +kernel
theorem dX5_far_13 : decode cX5_far 13 = .ok (.isub, 1) := by decide +kernel
theorem dX5_far_14 : decode cX5_far 14 = .ok (.ireturn, 1) := by decide +kernel
set_option maxRecDepth 20000 in
theorem ggX5_canBeGiven_X5_ofCar : GoodIn wsX5_canBeGiven wsX5_ofCar := goodIn_r _ [5, 6, 18, 19, 20, 21, 22] (by decide +kernel) (by decide +kernel)
set_option maxRecDepth 20000 in
theorem gX5_canBeGiven_X5_ofCar : GoodIn wsX5_canBeGiven (wsV RX5 38 RX5 yX5_ofCar wsX5_ofCar) := goodIn_app (goodIn_of _ (by decide +kernel)) ggX5_canBeGiven_X5_ofCar
set_option maxRecDepth 20000 in
theorem ggX5_canBeGiven_X5_isAwake : GoodIn wsX5_canBeGiven wsX5_isAwake := goodIn_r _ [10, 6, 11, 12, 13, 4, 14, 18, 19, 20, 21, 22] (by decide +kernel) (by decide +kernel)
set_option maxRecDepth 20000 in
theorem gX5_canBeGiven_X5_isAwake : GoodIn wsX5_canBeGiven (wsV RX5 41 RX5 yX5_isAwake wsX5_isAwake) := goodIn_app (goodIn_of _ (by decide +kernel)) ggX5_canBeGiven_X5_isAwake
set_option maxRecDepth 20000 in
theorem ggX5_canBeGiven_X5_in : GoodIn wsX5_canBeGiven wsX5_in := goodIn_r _ [17] (by decide +kernel) (by decide +kernel)
set_option maxRecDepth 20000 in
theorem gX5_canBeGiven_X5_in : GoodIn wsX5_canBeGiven (va_wsS RX5 26 yX5_in wsX5_in) := goodIn_app (goodIn_of _ (by decide +kernel)) ggX5_canBeGiven_X5_in
theorem dX5_canBeGiven_0 : decode cX5_canBeGiven 0 = .ok (.aload_n 0, 1) := by decide +kernel
theorem dX5_canBeGiven_1 : decode cX5_canBeGiven 1 = .ok (.iload_n 1, 1) := by decide +kernel
theorem dX5_canBeGiven_2 : decode cX5_canBeGiven 2 = .ok (.iconst 4, 1) := by decide +kernel
theorem dX5_canBeGiven_3 : decode cX5_canBeGiven 3 = .ok (.invokevirtual 38, 3) := by decide +kernel
theorem dX5_canBeGiven_6 : decode cX5_canBeGiven 6 = .ok (.ifCond .ne 15, 3) := by decide +kernel
theorem dX5_canBeGiven_9 : decode cX5_canBeGiven 9 = .ok (.aload_n 0, 1) := by decide +kernel
theorem dX5_canBeGiven_10 : decode cX5_canBeGiven 10 = .ok (.iload_n 1, 1) := by decide +kernel
theorem dX5_canBeGiven_11 : decode cX5_canBeGiven 11 = .ok (.invokevirtual 41, 3) := by decide +kernel
theorem dX5_canBeGiven_14 : decode cX5_canBeGiven 14 = .ok (.ifCond .eq 7, 3) := by decide +kernel
theorem dX5_canBeGiven_17 : decode cX5_canBeGiven 17 = .ok (.iconst 1, 1) := by decide +kernel
theorem dX5_canBeGiven_18 : decode cX5_canBeGiven 18 = .ok (.goto 4, 3) := by decide +kernel
theorem dX5_canBeGiven_21 : decode cX5_canBeGiven 21 = .ok (.iconst 0, 1) := by decide +kernel
theorem dX5_canBeGiven_22 : decode cX5_canBeGiven 22 = .ok (.istore 4, 2) := by decide +kernel
theorem dX5_canBeGiven_24 : decode cX5_canBeGiven 24 = .ok (.iload 4, 2) := by decide +kernel
theorem dX5_canBeGiven_26 : decode cX5_canBeGiven 26 = .ok (.ifCond .eq 45, 3) := by decide +kernel
theorem dX5_canBeGiven_29 : decode cX5_canBeGiven 29 = .ok (.iload_n 2, 1) := by decide +kernel
theorem dX5_canBeGiven_30 : decode cX5_canBeGiven 30 = .ok (.aload_n 0, 1) := by decide +kernel
theorem dX5_canBeGiven_31 : decode cX5_canBeGiven 31 = .ok (.iload_n 1, 1) := by decide +kernel
theorem dX5_canBeGiven_32 : decode cX5_canBeGiven 32 = .ok (.iconst 0, 1) := by decide +kernel
theorem dX5_canBeGiven_33 : decode cX5_canBeGiven 33 = .ok (.invokevirtual 38, 3) := by decide +kernel
theorem dX5_canBeGiven_36 : decode cX5_canBeGiven 36 = .ok (.aload_n 0, 1) := by decide +kernel
theorem dX5_canBeGiven_37 : decode cX5_canBeGiven 37 = .ok (.iload_n 1, 1) := by decide +kernel
theorem dX5_canBeGiven_38 : decode cX5_canBeGiven 38 = .ok (.iconst 1, 1) := by decide +kernel
theorem dX5_canBeGiven_39 : decode cX5_canBeGiven 39 = .ok (.invokevirtual 38, 3) := by decide +kernel
theorem dX5_canBeGiven_42 : decode cX5_canBeGiven 42 = .ok (.invokestatic 26, 3) := by decide +kernel
theorem dX5_canBeGiven_45 : decode cX5_canBeGiven 45 = .ok (.ifCond .eq 26, 3) := by decide +kernel
theorem dX5_canBeGiven_48 : decode cX5_canBeGiven 48 = .ok (.iload_n 3, 1) := by decide +kernel
theorem dX5_canBeGiven_49 : decode cX5_canBeGiven 49 = .ok (.aload_n 0, 1) := by decide +kernel
theorem dX5_canBeGiven_50 : decode cX5_canBeGiven 50 = .ok (.iload_n 1, 1) := by decide +kernel
theorem dX5_canBeGiven_51 : decode cX5_canBeGiven 51 = .ok (.iconst 0, 1) := by decide +kernel
theorem dX5_canBeGiven_52 : decode cX5_canBeGiven 52 = .ok (.invokevirtual 38, 3) := by decide +kernel
theorem dX5_canBeGiven_55 : decode cX5_canBeGiven 55 = .ok (.aload_n 0, 1) := by decide +kernel
theorem dX5_canBeGiven_56 : decode cX5_canBeGiven 56 = .ok (.iload_n 1, 1) := by decide +kernel
theorem dX5_canBeGiven_57 : decode cX5_canBeGiven 57 = .ok (.iconst 1, 1) := by decide +kernel
theorem dX5_canBeGiven_58 : decode cX5_canBeGiven 58 = .ok (.invokevirtual 38, 3) := by decide +kernel
theorem dX5_canBeGiven_61 : decode cX5_canBeGiven 61 = .ok (.invokestatic 26, 3) := by decide +kernel
theorem dX5_canBeGiven_64 : decode cX5_canBeGiven 64 = .ok (.ifCond .eq 7, 3) := by decide +kernel
theorem dX5_canBeGiven_67 : decode cX5_canBeGiven 67 = .ok (.iconst 1, 1) := by decide +kernel
theorem dX5_canBeGiven_68 : decode cX5_canBeGiven 68 = .ok (.goto 4, 3) := by decide +kernel
theorem dX5_canBeGiven_71 : decode cX5_canBeGiven 71 = .ok (.iconst 0, 1) := by decide +kernel
theorem dX5_canBeGiven_72 : decode cX5_canBeGiven 72 = .ok (.ireturn, 1) := by decide +kernel
set_option maxRecDepth 20000 in
theorem ggX5_costOf_X5_stops : GoodIn wsX5_costOf wsX5_stops := goodIn_r _ [5, 6, 7, 8, 9, 4, 10, 11, 12, 13, 28, 29, 30, 31, 32] (by decide +kernel) (by decide +kernel)
set_option maxRecDepth 20000 in
theorem gX5_costOf_X5_stops : GoodIn wsX5_costOf (wsV RX5 45 RX5 yX5_stops wsX5_stops) := goodIn_app (goodIn_of _ (by decide +kernel)) ggX5_costOf_X5_stops
set_option maxRecDepth 20000 in
theorem ggX5_costOf_X5_ones : GoodIn wsX5_costOf wsX5_ones := goodIn_r _ [16] (by decide +kernel) (by decide +kernel)
set_option maxRecDepth 20000 in
theorem gX5_costOf_X5_ones : GoodIn wsX5_costOf (va_wsS RX5 49 yX5_ones wsX5_ones) := goodIn_app (goodIn_of _ (by decide +kernel)) ggX5_costOf_X5_ones
set_option maxRecDepth 20000 in
theorem ggX5_costOf_X5_ofCar : GoodIn wsX5_costOf wsX5_ofCar := goodIn_r _ [20, 6, 28, 29, 30, 31, 32] (by decide +kernel) (by decide +kernel)
set_option maxRecDepth 20000 in
theorem gX5_costOf_X5_ofCar : GoodIn wsX5_costOf (wsV RX5 38 RX5 yX5_ofCar wsX5_ofCar) := goodIn_app (goodIn_of _ (by decide +kernel)) ggX5_costOf_X5_ofCar
set_option maxRecDepth 20000 in
theorem ggX5_costOf_X5_far : GoodIn wsX5_costOf wsX5_far := goodIn_r _ [23] (by decide +kernel) (by decide +kernel)
set_option maxRecDepth 20000 in
theorem gX5_costOf_X5_far : GoodIn wsX5_costOf (va_wsS RX5 52 yX5_far wsX5_far) := goodIn_app (goodIn_of _ (by decide +kernel)) ggX5_costOf_X5_far
set_option maxRecDepth 20000 in
theorem ggX5_costOf_X5_many : GoodIn wsX5_costOf wsX5_many := goodIn_r _ [27, 6, 7, 8, 9, 4, 10, 28, 29, 30, 31, 32] (by decide +kernel) (by decide +kernel)
set_option maxRecDepth 20000 in
theorem gX5_costOf_X5_many : GoodIn wsX5_costOf (wsV RX5 55 RX5 yX5_many wsX5_many) := goodIn_app (goodIn_of _ (by decide +kernel)) ggX5_costOf_X5_many
theorem dX5_costOf_0 : decode cX5_costOf 0 = .ok (.aload_n 0, 1) := by decide +kernel
theorem dX5_costOf_1 : decode cX5_costOf 1 = .ok (.iload_n 1, 1) := by decide +kernel
theorem dX5_costOf_2 : decode cX5_costOf 2 = .ok (.invokevirtual 45, 3) := by decide +kernel
theorem dX5_costOf_5 : decode cX5_costOf 5 = .ok (.iconst 1, 1) := by decide +kernel
theorem dX5_costOf_6 : decode cX5_costOf 6 = .ok (.iload_n 2, 1) := by decide +kernel
theorem dX5_costOf_7 : decode cX5_costOf 7 = .ok (.ishl, 1) := by decide +kernel
theorem dX5_costOf_8 : decode cX5_costOf 8 = .ok (.ior, 1) := by decide +kernel
theorem dX5_costOf_9 : decode cX5_costOf 9 = .ok (.iconst 1, 1) := by decide +kernel
theorem dX5_costOf_10 : decode cX5_costOf 10 = .ok (.iload_n 3, 1) := by decide +kernel
theorem dX5_costOf_11 : decode cX5_costOf 11 = .ok (.ishl, 1) := by decide +kernel
theorem dX5_costOf_12 : decode cX5_costOf 12 = .ok (.ior, 1) := by decide +kernel
theorem dX5_costOf_13 : decode cX5_costOf 13 = .ok (.invokestatic 49, 3) := by decide +kernel
theorem dX5_costOf_16 : decode cX5_costOf 16 = .ok (.istore 4, 2) := by decide +kernel
theorem dX5_costOf_18 : decode cX5_costOf 18 = .ok (.aload_n 0, 1) := by decide +kernel
theorem dX5_costOf_19 : decode cX5_costOf 19 = .ok (.iload_n 1, 1) := by decide +kernel
theorem dX5_costOf_20 : decode cX5_costOf 20 = .ok (.iconst 3, 1) := by decide +kernel
theorem dX5_costOf_21 : decode cX5_costOf 21 = .ok (.invokevirtual 38, 3) := by decide +kernel
theorem dX5_costOf_24 : decode cX5_costOf 24 = .ok (.iload_n 2, 1) := by decide +kernel
theorem dX5_costOf_25 : decode cX5_costOf 25 = .ok (.invokestatic 52, 3) := by decide +kernel
theorem dX5_costOf_28 : decode cX5_costOf 28 = .ok (.iconst 2, 1) := by decide +kernel
theorem dX5_costOf_29 : decode cX5_costOf 29 = .ok (.iload 4, 2) := by decide +kernel
theorem dX5_costOf_31 : decode cX5_costOf 31 = .ok (.imul, 1) := by decide +kernel
theorem dX5_costOf_32 : decode cX5_costOf 32 = .ok (.iadd, 1) := by decide +kernel
theorem dX5_costOf_33 : decode cX5_costOf 33 = .ok (.aload_n 0, 1) := by decide +kernel
theorem dX5_costOf_34 : decode cX5_costOf 34 = .ok (.iload_n 1, 1) := by decide +kernel
theorem dX5_costOf_35 : decode cX5_costOf 35 = .ok (.iconst 1, 1) := by decide +kernel
theorem dX5_costOf_36 : decode cX5_costOf 36 = .ok (.invokevirtual 55, 3) := by decide +kernel
theorem dX5_costOf_39 : decode cX5_costOf 39 = .ok (.iadd, 1) := by decide +kernel
theorem dX5_costOf_40 : decode cX5_costOf 40 = .ok (.aload_n 0, 1) := by decide +kernel
theorem dX5_costOf_41 : decode cX5_costOf 41 = .ok (.iload_n 1, 1) := by decide +kernel
theorem dX5_costOf_42 : decode cX5_costOf 42 = .ok (.iconst 2, 1) := by decide +kernel
theorem dX5_costOf_43 : decode cX5_costOf 43 = .ok (.invokevirtual 55, 3) := by decide +kernel
theorem dX5_costOf_46 : decode cX5_costOf 46 = .ok (.iadd, 1) := by decide +kernel
theorem dX5_costOf_47 : decode cX5_costOf 47 = .ok (.ireturn, 1) := by decide +kernel
set_option maxRecDepth 20000 in
theorem ggX5_best_X5_canBeGiven : GoodIn wsX5_best wsX5_canBeGiven := goodIn_r _ [6, 7, 8, 9, 5, 10, 1, 11, 12, 13, 14, 15, 16, 17, 18, 19, 20, 21, 44, 45, 46, 47, 48] (by decide +kernel) (by decide +kernel)
set_option maxRecDepth 20000 in
theorem gX5_best_X5_canBeGiven : GoodIn wsX5_best (wsV RX5 58 RX5 yX5_canBeGiven wsX5_canBeGiven) := goodIn_app (goodIn_of _ (by decide +kernel)) ggX5_best_X5_canBeGiven
set_option maxRecDepth 20000 in
theorem ggX5_best_X5_costOf : GoodIn wsX5_best wsX5_costOf := goodIn_r _ [25, 26, 27, 28, 5, 29, 1, 30, 31, 32, 33, 19, 20, 21, 34, 35, 36, 7, 8, 9, 10, 37, 38, 39, 40, 41, 42, 43, 44, 45, 46, 47, 48] (by decide +kernel) (by decide +kernel)
set_option maxRecDepth 20000 in
theorem gX5_best_X5_costOf : GoodIn wsX5_best (wsV RX5 61 RX5 yX5_costOf wsX5_costOf) := goodIn_app (goodIn_of _ (by decide +kernel)) ggX5_best_X5_costOf
theorem dX5_best_0 : decode cX5_best 0 = .ok (.bipush (-9), 2) := by decide +kernel
theorem dX5_best_2 : decode cX5_best 2 = .ok (.istore_n 3, 1) := by decide +kernel
theorem dX5_best_3 : decode cX5_best 3 = .ok (.iconst 0, 1) := by decide +kernel
theorem dX5_best_4 : decode cX5_best 4 = .ok (.istore 4, 2) := by decide +kernel
theorem dX5_best_6 : decode cX5_best 6 = .ok (.iconst 0, 1) := by decide +kernel
theorem dX5_best_7 : decode cX5_best 7 = .ok (.istore 5, 2) := by decide +kernel
theorem dX5_best_9 : decode cX5_best 9 = .ok (.iload 5, 2) := by decide +kernel
theorem dX5_best_11 : decode cX5_best 11 = .ok (.aload_n 0, 1) := by decide +kernel
theorem dX5_best_12 : decode cX5_best 12 = .ok (.getfield 7, 3) := by decide +kernel
theorem dX5_best_15 : decode cX5_best 15 = .ok (.iconst 1, 1) := by decide +kernel
theorem dX5_best_16 : decode cX5_best 16 = .ok (.iaload, 1) := by decide +kernel
theorem dX5_best_17 : decode cX5_best 17 = .ok (.if_icmp .ge 76, 3) := by decide +kernel
theorem dX5_best_20 : decode cX5_best 20 = .ok (.aload_n 0, 1) := by decide +kernel
theorem dX5_best_21 : decode cX5_best 21 = .ok (.iload 5, 2) := by decide +kernel
theorem dX5_best_23 : decode cX5_best 23 = .ok (.iload_n 1, 1) := by decide +kernel
theorem dX5_best_24 : decode cX5_best 24 = .ok (.iload_n 2, 1) := by decide +kernel
theorem dX5_best_25 : decode cX5_best 25 = .ok (.invokevirtual 58, 3) := by decide +kernel
theorem dX5_best_28 : decode cX5_best 28 = .ok (.ifCond .eq 59, 3) := by decide +kernel
theorem dX5_best_31 : decode cX5_best 31 = .ok (.aload_n 0, 1) := by decide +kernel
theorem dX5_best_32 : decode cX5_best 32 = .ok (.iload 5, 2) := by decide +kernel
theorem dX5_best_34 : decode cX5_best 34 = .ok (.iload_n 1, 1) := by decide +kernel
theorem dX5_best_35 : decode cX5_best 35 = .ok (.iload_n 2, 1) := by decide +kernel
theorem dX5_best_36 : decode cX5_best 36 = .ok (.invokevirtual 61, 3) := by decide +kernel
theorem dX5_best_39 : decode cX5_best 39 = .ok (.istore 6, 2) := by decide +kernel
theorem dX5_best_41 : decode cX5_best 41 = .ok (.iload_n 3, 1) := by decide +kernel
theorem dX5_best_42 : decode cX5_best 42 = .ok (.bipush (-9), 2) := by decide +kernel
theorem dX5_best_44 : decode cX5_best 44 = .ok (.if_icmp .eq 10, 3) := by decide +kernel
theorem dX5_best_47 : decode cX5_best 47 = .ok (.iload 6, 2) := by decide +kernel
theorem dX5_best_49 : decode cX5_best 49 = .ok (.iload 4, 2) := by decide +kernel
theorem dX5_best_51 : decode cX5_best 51 = .ok (.if_icmp .ge 7, 3) := by decide +kernel
theorem dX5_best_54 : decode cX5_best 54 = .ok (.iconst 1, 1) := by decide +kernel
theorem dX5_best_55 : decode cX5_best 55 = .ok (.goto 4, 3) := by decide +kernel
theorem dX5_best_58 : decode cX5_best 58 = .ok (.iconst 0, 1) := by decide +kernel
theorem dX5_best_59 : decode cX5_best 59 = .ok (.istore 7, 2) := by decide +kernel
theorem dX5_best_61 : decode cX5_best 61 = .ok (.iload 7, 2) := by decide +kernel
theorem dX5_best_63 : decode cX5_best 63 = .ok (.ifCond .eq 8, 3) := by decide +kernel
theorem dX5_best_66 : decode cX5_best 66 = .ok (.iload 5, 2) := by decide +kernel
theorem dX5_best_68 : decode cX5_best 68 = .ok (.goto 4, 3) := by decide +kernel
theorem dX5_best_71 : decode cX5_best 71 = .ok (.iload_n 3, 1) := by decide +kernel
theorem dX5_best_72 : decode cX5_best 72 = .ok (.istore_n 3, 1) := by decide +kernel
theorem dX5_best_73 : decode cX5_best 73 = .ok (.iload 7, 2) := by decide +kernel
theorem dX5_best_75 : decode cX5_best 75 = .ok (.ifCond .eq 8, 3) := by decide +kernel
theorem dX5_best_78 : decode cX5_best 78 = .ok (.iload 6, 2) := by decide +kernel
theorem dX5_best_80 : decode cX5_best 80 = .ok (.goto 5, 3) := by decide +kernel
theorem dX5_best_83 : decode cX5_best 83 = .ok (.iload 4, 2) := by decide +kernel
theorem dX5_best_85 : decode cX5_best 85 = .ok (.istore 4, 2) := by decide +kernel
theorem dX5_best_87 : decode cX5_best 87 = .ok (.iinc 5 1, 3) := by decide +kernel
theorem dX5_best_90 : decode cX5_best 90 = .ok (.goto (-81), 3) := by decide +kernel
theorem dX5_best_93 : decode cX5_best 93 = .ok (.iload_n 3, 1) := by decide +kernel
theorem dX5_best_94 : decode cX5_best 94 = .ok (.ireturn, 1) := by decide +kernel
set_option maxRecDepth 20000 in
theorem ggX5_gives_X5_ofCaller : GoodIn wsX5_gives wsX5_ofCaller := goodIn_r _ [5, 6, 52, 53, 54, 55, 56] (by decide +kernel) (by decide +kernel)
set_option maxRecDepth 20000 in
theorem gX5_gives_X5_ofCaller : GoodIn wsX5_gives (wsV RX5 34 RX5 yX5_ofCaller wsX5_ofCaller) := goodIn_app (goodIn_of _ (by decide +kernel)) ggX5_gives_X5_ofCaller
set_option maxRecDepth 20000 in
theorem ggX5_gives_X5_best : GoodIn wsX5_gives wsX5_best := goodIn_r _ [10, 6, 11, 12, 13, 4, 14, 15, 16, 17, 18, 19, 20, 21, 22, 23, 24, 25, 26, 27, 28, 29, 30, 31, 32, 33, 34, 35, 36, 37, 1, 2, 3, 5, 38, 39, 40, 41, 42, 43, 44, 45, 46, 47, 52, 53, 54, 55, 56] (by decide +kernel) (by decide +kernel)
set_option maxRecDepth 20000 in
theorem gX5_gives_X5_best : GoodIn wsX5_gives (wsV RX5 65 RX5 yX5_best wsX5_best) := goodIn_app (goodIn_of _ (by decide +kernel)) ggX5_gives_X5_best
set_option maxRecDepth 20000 in
theorem ggX5_gives_X5_puts : GoodIn wsX5_gives wsX5_puts := goodIn_r _ [51, 6, 52, 53, 54, 55, 56] (by decide +kernel) (by decide +kernel)
set_option maxRecDepth 20000 in
theorem gX5_gives_X5_puts : GoodIn wsX5_gives (wsV RX5 68 RX5 yX5_puts wsX5_puts) := goodIn_app (goodIn_of _ (by decide +kernel)) ggX5_gives_X5_puts
theorem dX5_gives_0 : decode cX5_gives 0 = .ok (.aload_n 0, 1) := by decide +kernel
theorem dX5_gives_1 : decode cX5_gives 1 = .ok (.aload_n 0, 1) := by decide +kernel
theorem dX5_gives_2 : decode cX5_gives 2 = .ok (.iload_n 1, 1) := by decide +kernel
theorem dX5_gives_3 : decode cX5_gives 3 = .ok (.iconst 0, 1) := by decide +kernel
theorem dX5_gives_4 : decode cX5_gives 4 = .ok (.invokevirtual 34, 3) := by decide +kernel
theorem dX5_gives_7 : decode cX5_gives 7 = .ok (.aload_n 0, 1) := by decide +kernel
theorem dX5_gives_8 : decode cX5_gives 8 = .ok (.iload_n 1, 1) := by decide +kernel
theorem dX5_gives_9 : decode cX5_gives 9 = .ok (.iconst 1, 1) := by decide +kernel
theorem dX5_gives_10 : decode cX5_gives 10 = .ok (.invokevirtual 34, 3) := by decide +kernel
theorem dX5_gives_13 : decode cX5_gives 13 = .ok (.invokevirtual 65, 3) := by decide +kernel
theorem dX5_gives_16 : decode cX5_gives 16 = .ok (.istore_n 2, 1) := by decide +kernel
theorem dX5_gives_17 : decode cX5_gives 17 = .ok (.iload_n 2, 1) := by decide +kernel
theorem dX5_gives_18 : decode cX5_gives 18 = .ok (.bipush (-9), 2) := by decide +kernel
theorem dX5_gives_20 : decode cX5_gives 20 = .ok (.if_icmp .eq 33, 3) := by decide +kernel
theorem dX5_gives_23 : decode cX5_gives 23 = .ok (.aload_n 0, 1) := by decide +kernel
theorem dX5_gives_24 : decode cX5_gives 24 = .ok (.iload_n 1, 1) := by decide +kernel
theorem dX5_gives_25 : decode cX5_gives 25 = .ok (.iconst 2, 1) := by decide +kernel
theorem dX5_gives_26 : decode cX5_gives 26 = .ok (.iconst 1, 1) := by decide +kernel
theorem dX5_gives_27 : decode cX5_gives 27 = .ok (.invokevirtual 68, 3) := by decide +kernel
theorem dX5_gives_30 : decode cX5_gives 30 = .ok (.aload_n 0, 1) := by decide +kernel
theorem dX5_gives_31 : decode cX5_gives 31 = .ok (.iload_n 1, 1) := by decide +kernel
theorem dX5_gives_32 : decode cX5_gives 32 = .ok (.iconst 3, 1) := by decide +kernel
theorem dX5_gives_33 : decode cX5_gives 33 = .ok (.iload_n 2, 1) := by decide +kernel
theorem dX5_gives_34 : decode cX5_gives 34 = .ok (.invokevirtual 68, 3) := by decide +kernel
theorem dX5_gives_37 : decode cX5_gives 37 = .ok (.aload_n 0, 1) := by decide +kernel
theorem dX5_gives_38 : decode cX5_gives 38 = .ok (.iload_n 1, 1) := by decide +kernel
theorem dX5_gives_39 : decode cX5_gives 39 = .ok (.bipush 7, 2) := by decide +kernel
theorem dX5_gives_41 : decode cX5_gives 41 = .ok (.aload_n 0, 1) := by decide +kernel
theorem dX5_gives_42 : decode cX5_gives 42 = .ok (.iload_n 1, 1) := by decide +kernel
theorem dX5_gives_43 : decode cX5_gives 43 = .ok (.bipush 7, 2) := by decide +kernel
theorem dX5_gives_45 : decode cX5_gives 45 = .ok (.invokevirtual 34, 3) := by decide +kernel
theorem dX5_gives_48 : decode cX5_gives 48 = .ok (.iconst 1, 1) := by decide +kernel
theorem dX5_gives_49 : decode cX5_gives 49 = .ok (.iadd, 1) := by decide +kernel
theorem dX5_gives_50 : decode cX5_gives 50 = .ok (.invokevirtual 68, 3) := by decide +kernel
theorem dX5_gives_53 : decode cX5_gives 53 = .ok (.return_, 1) := by decide +kernel
set_option maxRecDepth 20000 in
theorem ggX5_aim_X5_ofCar : GoodIn wsX5_aim wsX5_ofCar := goodIn_r _ [6, 1, 14, 15, 16, 17, 18] (by decide +kernel) (by decide +kernel)
set_option maxRecDepth 20000 in
theorem gX5_aim_X5_ofCar : GoodIn wsX5_aim (wsV RX5 38 RX5 yX5_ofCar wsX5_ofCar) := goodIn_app (goodIn_of _ (by decide +kernel)) ggX5_aim_X5_ofCar
set_option maxRecDepth 20000 in
theorem ggX5_aim_X5_ofCaller : GoodIn wsX5_aim wsX5_ofCaller := goodIn_r _ [10, 1, 14, 15, 16, 17, 18] (by decide +kernel) (by decide +kernel)
set_option maxRecDepth 20000 in
theorem gX5_aim_X5_ofCaller : GoodIn wsX5_aim (wsV RX5 34 RX5 yX5_ofCaller wsX5_ofCaller) := goodIn_app (goodIn_of _ (by decide +kernel)) ggX5_aim_X5_ofCaller
set_option maxRecDepth 20000 in
theorem ggX5_aim_X5_far : GoodIn wsX5_aim wsX5_far := goodIn_r _ [13] (by decide +kernel) (by decide +kernel)
set_option maxRecDepth 20000 in
theorem gX5_aim_X5_far : GoodIn wsX5_aim (va_wsS RX5 52 yX5_far wsX5_far) := goodIn_app (goodIn_of _ (by decide +kernel)) ggX5_aim_X5_far
theorem dX5_aim_0 : decode cX5_aim 0 = .ok (.aload_n 0, 1) := by decide +kernel
theorem dX5_aim_1 : decode cX5_aim 1 = .ok (.iload_n 1, 1) := by decide +kernel
theorem dX5_aim_2 : decode cX5_aim 2 = .ok (.iconst 3, 1) := by decide +kernel
theorem dX5_aim_3 : decode cX5_aim 3 = .ok (.invokevirtual 38, 3) := by decide +kernel
theorem dX5_aim_6 : decode cX5_aim 6 = .ok (.istore_n 2, 1) := by decide +kernel
theorem dX5_aim_7 : decode cX5_aim 7 = .ok (.bipush (-9), 2) := by decide +kernel
theorem dX5_aim_9 : decode cX5_aim 9 = .ok (.istore_n 3, 1) := by decide +kernel
theorem dX5_aim_10 : decode cX5_aim 10 = .ok (.bipush (-9), 2) := by decide +kernel
theorem dX5_aim_12 : decode cX5_aim 12 = .ok (.istore 4, 2) := by decide +kernel
theorem dX5_aim_14 : decode cX5_aim 14 = .ok (.iconst 0, 1) := by decide +kernel
theorem dX5_aim_15 : decode cX5_aim 15 = .ok (.istore 5, 2) := by decide +kernel
theorem dX5_aim_17 : decode cX5_aim 17 = .ok (.iload 5, 2) := by decide +kernel
theorem dX5_aim_19 : decode cX5_aim 19 = .ok (.aload_n 0, 1) := by decide +kernel
theorem dX5_aim_20 : decode cX5_aim 20 = .ok (.getfield 7, 3) := by decide +kernel
theorem dX5_aim_23 : decode cX5_aim 23 = .ok (.iconst 2, 1) := by decide +kernel
theorem dX5_aim_24 : decode cX5_aim 24 = .ok (.iaload, 1) := by decide +kernel
theorem dX5_aim_25 : decode cX5_aim 25 = .ok (.if_icmp .ge 130, 3) := by decide +kernel
theorem dX5_aim_28 : decode cX5_aim 28 = .ok (.aload_n 0, 1) := by decide +kernel
theorem dX5_aim_29 : decode cX5_aim 29 = .ok (.iload 5, 2) := by decide +kernel
theorem dX5_aim_31 : decode cX5_aim 31 = .ok (.iconst 3, 1) := by decide +kernel
theorem dX5_aim_32 : decode cX5_aim 32 = .ok (.invokevirtual 34, 3) := by decide +kernel
theorem dX5_aim_35 : decode cX5_aim 35 = .ok (.iload_n 1, 1) := by decide +kernel
theorem dX5_aim_36 : decode cX5_aim 36 = .ok (.if_icmp .ne 70, 3) := by decide +kernel
theorem dX5_aim_39 : decode cX5_aim 39 = .ok (.aload_n 0, 1) := by decide +kernel
theorem dX5_aim_40 : decode cX5_aim 40 = .ok (.iload 5, 2) := by decide +kernel
theorem dX5_aim_42 : decode cX5_aim 42 = .ok (.iconst 2, 1) := by decide +kernel
theorem dX5_aim_43 : decode cX5_aim 43 = .ok (.invokevirtual 34, 3) := by decide +kernel
theorem dX5_aim_46 : decode cX5_aim 46 = .ok (.iconst 2, 1) := by decide +kernel
theorem dX5_aim_47 : decode cX5_aim 47 = .ok (.if_icmp .ne 59, 3) := by decide +kernel
theorem dX5_aim_50 : decode cX5_aim 50 = .ok (.aload_n 0, 1) := by decide +kernel
theorem dX5_aim_51 : decode cX5_aim 51 = .ok (.iload 5, 2) := by decide +kernel
theorem dX5_aim_53 : decode cX5_aim 53 = .ok (.iconst 1, 1) := by decide +kernel
theorem dX5_aim_54 : decode cX5_aim 54 = .ok (.invokevirtual 34, 3) := by decide +kernel
theorem dX5_aim_57 : decode cX5_aim 57 = .ok (.istore 6, 2) := by decide +kernel
theorem dX5_aim_59 : decode cX5_aim 59 = .ok (.iload_n 3, 1) := by decide +kernel
theorem dX5_aim_60 : decode cX5_aim 60 = .ok (.bipush (-9), 2) := by decide +kernel
theorem dX5_aim_62 : decode cX5_aim 62 = .ok (.if_icmp .ne 7, 3) := by decide +kernel
theorem dX5_aim_65 : decode cX5_aim 65 = .ok (.iconst (-1), 1) := by decide +kernel
theorem dX5_aim_66 : decode cX5_aim 66 = .ok (.goto 15, 3) := by decide +kernel
theorem dX5_aim_69 : decode cX5_aim 69 = .ok (.iload 6, 2) := by decide +kernel
theorem dX5_aim_71 : decode cX5_aim 71 = .ok (.iload_n 2, 1) := by decide +kernel
theorem dX5_aim_72 : decode cX5_aim 72 = .ok (.invokestatic 52, 3) := by decide +kernel
theorem dX5_aim_75 : decode cX5_aim 75 = .ok (.iload_n 3, 1) := by decide +kernel
theorem dX5_aim_76 : decode cX5_aim 76 = .ok (.iload_n 2, 1) := by decide +kernel
theorem dX5_aim_77 : decode cX5_aim 77 = .ok (.invokestatic 52, 3) := by decide +kernel
theorem dX5_aim_80 : decode cX5_aim 80 = .ok (.isub, 1) := by decide +kernel
theorem dX5_aim_81 : decode cX5_aim 81 = .ok (.istore 7, 2) := by decide +kernel
theorem dX5_aim_83 : decode cX5_aim 83 = .ok (.iload 7, 2) := by decide +kernel
theorem dX5_aim_85 : decode cX5_aim 85 = .ok (.ifCond .lt 14, 3) := by decide +kernel
theorem dX5_aim_88 : decode cX5_aim 88 = .ok (.iload 7, 2) := by decide +kernel
theorem dX5_aim_90 : decode cX5_aim 90 = .ok (.ifCond .ne 14, 3) := by decide +kernel
theorem dX5_aim_93 : decode cX5_aim 93 = .ok (.iload 6, 2) := by decide +kernel
theorem dX5_aim_95 : decode cX5_aim 95 = .ok (.iload_n 3, 1) := by decide +kernel
theorem dX5_aim_96 : decode cX5_aim 96 = .ok (.if_icmp .ge 8, 3) := by decide +kernel
theorem dX5_aim_99 : decode cX5_aim 99 = .ok (.iload 6, 2) := by decide +kernel
theorem dX5_aim_101 : decode cX5_aim 101 = .ok (.goto 4, 3) := by decide +kernel
theorem dX5_aim_104 : decode cX5_aim 104 = .ok (.iload_n 3, 1) := by decide +kernel
theorem dX5_aim_105 : decode cX5_aim 105 = .ok (.istore_n 3, 1) := by decide +kernel
theorem dX5_aim_106 : decode cX5_aim 106 = .ok (.iload 4, 2) := by decide +kernel
theorem dX5_aim_108 : decode cX5_aim 108 = .ok (.bipush (-9), 2) := by decide +kernel
theorem dX5_aim_110 : decode cX5_aim 110 = .ok (.if_icmp .ne 35, 3) := by decide +kernel
theorem dX5_aim_113 : decode cX5_aim 113 = .ok (.aload_n 0, 1) := by decide +kernel
theorem dX5_aim_114 : decode cX5_aim 114 = .ok (.iload 5, 2) := by decide +kernel
theorem dX5_aim_116 : decode cX5_aim 116 = .ok (.iconst 3, 1) := by decide +kernel
theorem dX5_aim_117 : decode cX5_aim 117 = .ok (.invokevirtual 34, 3) := by decide +kernel
theorem dX5_aim_120 : decode cX5_aim 120 = .ok (.iload_n 1, 1) := by decide +kernel
theorem dX5_aim_121 : decode cX5_aim 121 = .ok (.if_icmp .ne 24, 3) := by decide +kernel
theorem dX5_aim_124 : decode cX5_aim 124 = .ok (.aload_n 0, 1) := by decide +kernel
theorem dX5_aim_125 : decode cX5_aim 125 = .ok (.iload 5, 2) := by decide +kernel
theorem dX5_aim_127 : decode cX5_aim 127 = .ok (.iconst 2, 1) := by decide +kernel
theorem dX5_aim_128 : decode cX5_aim 128 = .ok (.invokevirtual 34, 3) := by decide +kernel
theorem dX5_aim_131 : decode cX5_aim 131 = .ok (.iconst 1, 1) := by decide +kernel
theorem dX5_aim_132 : decode cX5_aim 132 = .ok (.if_icmp .ne 13, 3) := by decide +kernel
theorem dX5_aim_135 : decode cX5_aim 135 = .ok (.aload_n 0, 1) := by decide +kernel
theorem dX5_aim_136 : decode cX5_aim 136 = .ok (.iload 5, 2) := by decide +kernel
theorem dX5_aim_138 : decode cX5_aim 138 = .ok (.iconst 0, 1) := by decide +kernel
theorem dX5_aim_139 : decode cX5_aim 139 = .ok (.invokevirtual 34, 3) := by decide +kernel
theorem dX5_aim_142 : decode cX5_aim 142 = .ok (.goto 5, 3) := by decide +kernel
theorem dX5_aim_145 : decode cX5_aim 145 = .ok (.iload 4, 2) := by decide +kernel
theorem dX5_aim_147 : decode cX5_aim 147 = .ok (.istore 4, 2) := by decide +kernel
theorem dX5_aim_149 : decode cX5_aim 149 = .ok (.iinc 5 1, 3) := by decide +kernel
theorem dX5_aim_152 : decode cX5_aim 152 = .ok (.goto (-135), 3) := by decide +kernel
theorem dX5_aim_155 : decode cX5_aim 155 = .ok (.iload_n 3, 1) := by decide +kernel
theorem dX5_aim_156 : decode cX5_aim 156 = .ok (.bipush (-9), 2) := by decide +kernel
theorem dX5_aim_158 : decode cX5_aim 158 = .ok (.if_icmp .ne 8, 3) := by decide +kernel
theorem dX5_aim_161 : decode cX5_aim 161 = .ok (.iload 4, 2) := by decide +kernel
theorem dX5_aim_163 : decode cX5_aim 163 = .ok (.goto 4, 3) := by decide +kernel
theorem dX5_aim_166 : decode cX5_aim 166 = .ok (.iload_n 3, 1) := by decide +kernel
theorem dX5_aim_167 : decode cX5_aim 167 = .ok (.ireturn, 1) := by decide +kernel
set_option maxRecDepth 20000 in
theorem ggX5_isOut_X5_ofCaller : GoodIn wsX5_isOut wsX5_ofCaller := goodIn_r _ [5, 6, 11, 12, 13, 14, 15] (by decide +kernel) (by decide +kernel)
set_option maxRecDepth 20000 in
theorem gX5_isOut_X5_ofCaller : GoodIn wsX5_isOut (wsV RX5 34 RX5 yX5_ofCaller wsX5_ofCaller) := goodIn_app (goodIn_of _ (by decide +kernel)) ggX5_isOut_X5_ofCaller
set_option maxRecDepth 20000 in
theorem ggX5_isOut_X5_ofCar : GoodIn wsX5_isOut wsX5_ofCar := goodIn_r _ [10, 6, 11, 12, 13, 14, 15] (by decide +kernel) (by decide +kernel)
set_option maxRecDepth 20000 in
theorem gX5_isOut_X5_ofCar : GoodIn wsX5_isOut (wsV RX5 38 RX5 yX5_ofCar wsX5_ofCar) := goodIn_app (goodIn_of _ (by decide +kernel)) ggX5_isOut_X5_ofCar
theorem dX5_isOut_0 : decode cX5_isOut 0 = .ok (.aload_n 0, 1) := by decide +kernel
theorem dX5_isOut_1 : decode cX5_isOut 1 = .ok (.iload_n 1, 1) := by decide +kernel
theorem dX5_isOut_2 : decode cX5_isOut 2 = .ok (.iconst 3, 1) := by decide +kernel
theorem dX5_isOut_3 : decode cX5_isOut 3 = .ok (.invokevirtual 34, 3) := by decide +kernel
theorem dX5_isOut_6 : decode cX5_isOut 6 = .ok (.iload_n 2, 1) := by decide +kernel
theorem dX5_isOut_7 : decode cX5_isOut 7 = .ok (.if_icmp .ne 32, 3) := by decide +kernel
theorem dX5_isOut_10 : decode cX5_isOut 10 = .ok (.aload_n 0, 1) := by decide +kernel
theorem dX5_isOut_11 : decode cX5_isOut 11 = .ok (.iload_n 1, 1) := by decide +kernel
theorem dX5_isOut_12 : decode cX5_isOut 12 = .ok (.iconst 2, 1) := by decide +kernel
theorem dX5_isOut_13 : decode cX5_isOut 13 = .ok (.invokevirtual 34, 3) := by decide +kernel
theorem dX5_isOut_16 : decode cX5_isOut 16 = .ok (.iconst 2, 1) := by decide +kernel
theorem dX5_isOut_17 : decode cX5_isOut 17 = .ok (.if_icmp .ne 22, 3) := by decide +kernel
theorem dX5_isOut_20 : decode cX5_isOut 20 = .ok (.aload_n 0, 1) := by decide +kernel
theorem dX5_isOut_21 : decode cX5_isOut 21 = .ok (.iload_n 1, 1) := by decide +kernel
theorem dX5_isOut_22 : decode cX5_isOut 22 = .ok (.iconst 1, 1) := by decide +kernel
theorem dX5_isOut_23 : decode cX5_isOut 23 = .ok (.invokevirtual 34, 3) := by decide +kernel
theorem dX5_isOut_26 : decode cX5_isOut 26 = .ok (.aload_n 0, 1) := by decide +kernel
theorem dX5_isOut_27 : decode cX5_isOut 27 = .ok (.iload_n 2, 1) := by decide +kernel
theorem dX5_isOut_28 : decode cX5_isOut 28 = .ok (.iconst 3, 1) := by decide +kernel
theorem dX5_isOut_29 : decode cX5_isOut 29 = .ok (.invokevirtual 38, 3) := by decide +kernel
theorem dX5_isOut_32 : decode cX5_isOut 32 = .ok (.if_icmp .ne 7, 3) := by decide +kernel
theorem dX5_isOut_35 : decode cX5_isOut 35 = .ok (.iconst 1, 1) := by decide +kernel
theorem dX5_isOut_36 : decode cX5_isOut 36 = .ok (.goto 4, 3) := by decide +kernel
theorem dX5_isOut_39 : decode cX5_isOut 39 = .ok (.iconst 0, 1) := by decide +kernel
theorem dX5_isOut_40 : decode cX5_isOut 40 = .ok (.ireturn, 1) := by decide +kernel
set_option maxRecDepth 20000 in
theorem ggX5_isTaken_X5_ofCaller : GoodIn wsX5_isTaken wsX5_ofCaller := goodIn_r _ [5, 6, 11, 12, 13, 14, 15] (by decide +kernel) (by decide +kernel)
set_option maxRecDepth 20000 in
theorem gX5_isTaken_X5_ofCaller : GoodIn wsX5_isTaken (wsV RX5 34 RX5 yX5_ofCaller wsX5_ofCaller) := goodIn_app (goodIn_of _ (by decide +kernel)) ggX5_isTaken_X5_ofCaller
set_option maxRecDepth 20000 in
theorem ggX5_isTaken_X5_ofCar : GoodIn wsX5_isTaken wsX5_ofCar := goodIn_r _ [10, 6, 11, 12, 13, 14, 15] (by decide +kernel) (by decide +kernel)
set_option maxRecDepth 20000 in
theorem gX5_isTaken_X5_ofCar : GoodIn wsX5_isTaken (wsV RX5 38 RX5 yX5_ofCar wsX5_ofCar) := goodIn_app (goodIn_of _ (by decide +kernel)) ggX5_isTaken_X5_ofCar
theorem dX5_isTaken_0 : decode cX5_isTaken 0 = .ok (.aload_n 0, 1) := by decide +kernel
theorem dX5_isTaken_1 : decode cX5_isTaken 1 = .ok (.iload_n 1, 1) := by decide +kernel
theorem dX5_isTaken_2 : decode cX5_isTaken 2 = .ok (.iconst 3, 1) := by decide +kernel
theorem dX5_isTaken_3 : decode cX5_isTaken 3 = .ok (.invokevirtual 34, 3) := by decide +kernel
theorem dX5_isTaken_6 : decode cX5_isTaken 6 = .ok (.iload_n 2, 1) := by decide +kernel
theorem dX5_isTaken_7 : decode cX5_isTaken 7 = .ok (.if_icmp .ne 32, 3) := by decide +kernel
theorem dX5_isTaken_10 : decode cX5_isTaken 10 = .ok (.aload_n 0, 1) := by decide +kernel
theorem dX5_isTaken_11 : decode cX5_isTaken 11 = .ok (.iload_n 1, 1) := by decide +kernel
theorem dX5_isTaken_12 : decode cX5_isTaken 12 = .ok (.iconst 2, 1) := by decide +kernel
theorem dX5_isTaken_13 : decode cX5_isTaken 13 = .ok (.invokevirtual 34, 3) := by decide +kernel
theorem dX5_isTaken_16 : decode cX5_isTaken 16 = .ok (.iconst 1, 1) := by decide +kernel
theorem dX5_isTaken_17 : decode cX5_isTaken 17 = .ok (.if_icmp .ne 22, 3) := by decide +kernel
theorem dX5_isTaken_20 : decode cX5_isTaken 20 = .ok (.aload_n 0, 1) := by decide +kernel
theorem dX5_isTaken_21 : decode cX5_isTaken 21 = .ok (.iload_n 1, 1) := by decide +kernel
theorem dX5_isTaken_22 : decode cX5_isTaken 22 = .ok (.iconst 0, 1) := by decide +kernel
theorem dX5_isTaken_23 : decode cX5_isTaken 23 = .ok (.invokevirtual 34, 3) := by decide +kernel
theorem dX5_isTaken_26 : decode cX5_isTaken 26 = .ok (.aload_n 0, 1) := by decide +kernel
theorem dX5_isTaken_27 : decode cX5_isTaken 27 = .ok (.iload_n 2, 1) := by decide +kernel
theorem dX5_isTaken_28 : decode cX5_isTaken 28 = .ok (.iconst 3, 1) := by decide +kernel
theorem dX5_isTaken_29 : decode cX5_isTaken 29 = .ok (.invokevirtual 38, 3) := by decide +kernel
theorem dX5_isTaken_32 : decode cX5_isTaken 32 = .ok (.if_icmp .ne 7, 3) := by decide +kernel
theorem dX5_isTaken_35 : decode cX5_isTaken 35 = .ok (.iconst 1, 1) := by decide +kernel
theorem dX5_isTaken_36 : decode cX5_isTaken 36 = .ok (.goto 4, 3) := by decide +kernel
theorem dX5_isTaken_39 : decode cX5_isTaken 39 = .ok (.iconst 0, 1) := by decide +kernel
theorem dX5_isTaken_40 : decode cX5_isTaken 40 = .ok (.ireturn, 1) := by decide +kernel
set_option maxRecDepth 20000 in
theorem ggX5_isStop_X5_isOut : GoodIn wsX5_isStop wsX5_isOut := goodIn_r _ [6, 7, 8, 9, 5, 10, 1, 11, 12, 13, 14, 23, 24, 25, 26, 27] (by decide +kernel) (by decide +kernel)
set_option maxRecDepth 20000 in
theorem gX5_isStop_X5_isOut : GoodIn wsX5_isStop (wsV RX5 72 RX5 yX5_isOut wsX5_isOut) := goodIn_app (goodIn_of _ (by decide +kernel)) ggX5_isStop_X5_isOut
set_option maxRecDepth 20000 in
theorem ggX5_isStop_X5_isTaken : GoodIn wsX5_isStop wsX5_isTaken := goodIn_r _ [18, 7, 8, 9, 5, 10, 1, 11, 12, 13, 14, 23, 24, 25, 26, 27] (by decide +kernel) (by decide +kernel)
set_option maxRecDepth 20000 in
theorem gX5_isStop_X5_isTaken : GoodIn wsX5_isStop (wsV RX5 76 RX5 yX5_isTaken wsX5_isTaken) := goodIn_app (goodIn_of _ (by decide +kernel)) ggX5_isStop_X5_isTaken
set_option maxRecDepth 20000 in
theorem ggX5_isStop_X5_many : GoodIn wsX5_isStop wsX5_many := goodIn_r _ [22, 1, 7, 8, 9, 5, 10, 23, 24, 25, 26, 27] (by decide +kernel) (by decide +kernel)
set_option maxRecDepth 20000 in
theorem gX5_isStop_X5_many : GoodIn wsX5_isStop (wsV RX5 55 RX5 yX5_many wsX5_many) := goodIn_app (goodIn_of _ (by decide +kernel)) ggX5_isStop_X5_many
set_option maxRecDepth 20000 in
theorem ggX5_isStop_X5_ofCar : GoodIn wsX5_isStop wsX5_ofCar := goodIn_r _ [14, 1, 23, 24, 25, 26, 27] (by decide +kernel) (by decide +kernel)
set_option maxRecDepth 20000 in
theorem gX5_isStop_X5_ofCar : GoodIn wsX5_isStop (wsV RX5 38 RX5 yX5_ofCar wsX5_ofCar) := goodIn_app (goodIn_of _ (by decide +kernel)) ggX5_isStop_X5_ofCar
theorem dX5_isStop_0 : decode cX5_isStop 0 = .ok (.iconst 0, 1) := by decide +kernel
theorem dX5_isStop_1 : decode cX5_isStop 1 = .ok (.istore_n 2, 1) := by decide +kernel
theorem dX5_isStop_2 : decode cX5_isStop 2 = .ok (.iconst 0, 1) := by decide +kernel
theorem dX5_isStop_3 : decode cX5_isStop 3 = .ok (.istore_n 3, 1) := by decide +kernel
theorem dX5_isStop_4 : decode cX5_isStop 4 = .ok (.iconst 0, 1) := by decide +kernel
theorem dX5_isStop_5 : decode cX5_isStop 5 = .ok (.istore 4, 2) := by decide +kernel
theorem dX5_isStop_7 : decode cX5_isStop 7 = .ok (.iload 4, 2) := by decide +kernel
theorem dX5_isStop_9 : decode cX5_isStop 9 = .ok (.aload_n 0, 1) := by decide +kernel
theorem dX5_isStop_10 : decode cX5_isStop 10 = .ok (.getfield 7, 3) := by decide +kernel
theorem dX5_isStop_13 : decode cX5_isStop 13 = .ok (.iconst 2, 1) := by decide +kernel
theorem dX5_isStop_14 : decode cX5_isStop 14 = .ok (.iaload, 1) := by decide +kernel
theorem dX5_isStop_15 : decode cX5_isStop 15 = .ok (.if_icmp .ge 49, 3) := by decide +kernel
theorem dX5_isStop_18 : decode cX5_isStop 18 = .ok (.iload_n 2, 1) := by decide +kernel
theorem dX5_isStop_19 : decode cX5_isStop 19 = .ok (.ifCond .ne 13, 3) := by decide +kernel
theorem dX5_isStop_22 : decode cX5_isStop 22 = .ok (.aload_n 0, 1) := by decide +kernel
theorem dX5_isStop_23 : decode cX5_isStop 23 = .ok (.iload 4, 2) := by decide +kernel
theorem dX5_isStop_25 : decode cX5_isStop 25 = .ok (.iload_n 1, 1) := by decide +kernel
theorem dX5_isStop_26 : decode cX5_isStop 26 = .ok (.invokevirtual 72, 3) := by decide +kernel
theorem dX5_isStop_29 : decode cX5_isStop 29 = .ok (.ifCond .eq 7, 3) := by decide +kernel
theorem dX5_isStop_32 : decode cX5_isStop 32 = .ok (.iconst 1, 1) := by decide +kernel
theorem dX5_isStop_33 : decode cX5_isStop 33 = .ok (.goto 4, 3) := by decide +kernel
theorem dX5_isStop_36 : decode cX5_isStop 36 = .ok (.iconst 0, 1) := by decide +kernel
theorem dX5_isStop_37 : decode cX5_isStop 37 = .ok (.istore_n 2, 1) := by decide +kernel
theorem dX5_isStop_38 : decode cX5_isStop 38 = .ok (.iload_n 3, 1) := by decide +kernel
theorem dX5_isStop_39 : decode cX5_isStop 39 = .ok (.ifCond .ne 13, 3) := by decide +kernel
theorem dX5_isStop_42 : decode cX5_isStop 42 = .ok (.aload_n 0, 1) := by decide +kernel
theorem dX5_isStop_43 : decode cX5_isStop 43 = .ok (.iload 4, 2) := by decide +kernel
theorem dX5_isStop_45 : decode cX5_isStop 45 = .ok (.iload_n 1, 1) := by decide +kernel
theorem dX5_isStop_46 : decode cX5_isStop 46 = .ok (.invokevirtual 76, 3) := by decide +kernel
theorem dX5_isStop_49 : decode cX5_isStop 49 = .ok (.ifCond .eq 7, 3) := by decide +kernel
theorem dX5_isStop_52 : decode cX5_isStop 52 = .ok (.iconst 1, 1) := by decide +kernel
theorem dX5_isStop_53 : decode cX5_isStop 53 = .ok (.goto 4, 3) := by decide +kernel
theorem dX5_isStop_56 : decode cX5_isStop 56 = .ok (.iconst 0, 1) := by decide +kernel
theorem dX5_isStop_57 : decode cX5_isStop 57 = .ok (.istore_n 3, 1) := by decide +kernel
theorem dX5_isStop_58 : decode cX5_isStop 58 = .ok (.iinc 4 1, 3) := by decide +kernel
theorem dX5_isStop_61 : decode cX5_isStop 61 = .ok (.goto (-54), 3) := by decide +kernel
theorem dX5_isStop_64 : decode cX5_isStop 64 = .ok (.iload_n 2, 1) := by decide +kernel
theorem dX5_isStop_65 : decode cX5_isStop 65 = .ok (.ifCond .ne 22, 3) := by decide +kernel
theorem dX5_isStop_68 : decode cX5_isStop 68 = .ok (.iload_n 3, 1) := by decide +kernel
theorem dX5_isStop_69 : decode cX5_isStop 69 = .ok (.ifCond .eq 22, 3) := by decide +kernel
theorem dX5_isStop_72 : decode cX5_isStop 72 = .ok (.aload_n 0, 1) := by decide +kernel
theorem dX5_isStop_73 : decode cX5_isStop 73 = .ok (.iload_n 1, 1) := by decide +kernel
theorem dX5_isStop_74 : decode cX5_isStop 74 = .ok (.iconst 2, 1) := by decide +kernel
theorem dX5_isStop_75 : decode cX5_isStop 75 = .ok (.invokevirtual 55, 3) := by decide +kernel
theorem dX5_isStop_78 : decode cX5_isStop 78 = .ok (.aload_n 0, 1) := by decide +kernel
theorem dX5_isStop_79 : decode cX5_isStop 79 = .ok (.iload_n 1, 1) := by decide +kernel
theorem dX5_isStop_80 : decode cX5_isStop 80 = .ok (.iconst 2, 1) := by decide +kernel
theorem dX5_isStop_81 : decode cX5_isStop 81 = .ok (.invokevirtual 38, 3) := by decide +kernel
theorem dX5_isStop_84 : decode cX5_isStop 84 = .ok (.if_icmp .ge 7, 3) := by decide +kernel
theorem dX5_isStop_87 : decode cX5_isStop 87 = .ok (.iconst 1, 1) := by decide +kernel
theorem dX5_isStop_88 : decode cX5_isStop 88 = .ok (.goto 4, 3) := by decide +kernel
theorem dX5_isStop_91 : decode cX5_isStop 91 = .ok (.iconst 0, 1) := by decide +kernel
theorem dX5_isStop_92 : decode cX5_isStop 92 = .ok (.ireturn, 1) := by decide +kernel
set_option maxRecDepth 20000 in
theorem ggX5_stopsNow_X5_isOut : GoodIn wsX5_stopsNow wsX5_isOut := goodIn_r _ [6, 7, 8, 9, 5, 10, 1, 11, 12, 13, 14, 27, 28, 29, 30, 31] (by decide +kernel) (by decide +kernel)
set_option maxRecDepth 20000 in
theorem gX5_stopsNow_X5_isOut : GoodIn wsX5_stopsNow (wsV RX5 72 RX5 yX5_isOut wsX5_isOut) := goodIn_app (goodIn_of _ (by decide +kernel)) ggX5_stopsNow_X5_isOut
set_option maxRecDepth 20000 in
theorem ggX5_stopsNow_X5_puts : GoodIn wsX5_stopsNow wsX5_puts := goodIn_r _ [18, 1, 27, 28, 29, 30, 31] (by decide +kernel) (by decide +kernel)
set_option maxRecDepth 20000 in
theorem gX5_stopsNow_X5_puts : GoodIn wsX5_stopsNow (wsV RX5 68 RX5 yX5_puts wsX5_puts) := goodIn_app (goodIn_of _ (by decide +kernel)) ggX5_stopsNow_X5_puts
set_option maxRecDepth 20000 in
theorem ggX5_stopsNow_X5_isTaken : GoodIn wsX5_stopsNow wsX5_isTaken := goodIn_r _ [22, 7, 8, 9, 5, 10, 1, 11, 12, 13, 14, 27, 28, 29, 30, 31] (by decide +kernel) (by decide +kernel)
set_option maxRecDepth 20000 in
theorem gX5_stopsNow_X5_isTaken : GoodIn wsX5_stopsNow (wsV RX5 76 RX5 yX5_isTaken wsX5_isTaken) := goodIn_app (goodIn_of _ (by decide +kernel)) ggX5_stopsNow_X5_isTaken
set_option maxRecDepth 20000 in
theorem ggX5_stopsNow_X5_many : GoodIn wsX5_stopsNow wsX5_many := goodIn_r _ [26, 1, 7, 8, 9, 5, 10, 27, 28, 29, 30, 31] (by decide +kernel) (by decide +kernel)
set_option maxRecDepth 20000 in
theorem gX5_stopsNow_X5_many : GoodIn wsX5_stopsNow (wsV RX5 55 RX5 yX5_many wsX5_many) := goodIn_app (goodIn_of _ (by decide +kernel)) ggX5_stopsNow_X5_many
set_option maxRecDepth 20000 in
theorem ggX5_stopsNow_X5_ofCar : GoodIn wsX5_stopsNow wsX5_ofCar := goodIn_r _ [14, 1, 27, 28, 29, 30, 31] (by decide +kernel) (by decide +kernel)
set_option maxRecDepth 20000 in
theorem gX5_stopsNow_X5_ofCar : GoodIn wsX5_stopsNow (wsV RX5 38 RX5 yX5_ofCar wsX5_ofCar) := goodIn_app (goodIn_of _ (by decide +kernel)) ggX5_stopsNow_X5_ofCar
theorem dX5_stopsNow_0 : decode cX5_stopsNow 0 = .ok (.iconst 0, 1) := by decide +kernel
theorem dX5_stopsNow_1 : decode cX5_stopsNow 1 = .ok (.istore_n 2, 1) := by decide +kernel
theorem dX5_stopsNow_2 : decode cX5_stopsNow 2 = .ok (.iload_n 2, 1) := by decide +kernel
theorem dX5_stopsNow_3 : decode cX5_stopsNow 3 = .ok (.aload_n 0, 1) := by decide +kernel
theorem dX5_stopsNow_4 : decode cX5_stopsNow 4 = .ok (.getfield 7, 3) := by decide +kernel
theorem dX5_stopsNow_7 : decode cX5_stopsNow 7 = .ok (.iconst 2, 1) := by decide +kernel
theorem dX5_stopsNow_8 : decode cX5_stopsNow 8 = .ok (.iaload, 1) := by decide +kernel
theorem dX5_stopsNow_9 : decode cX5_stopsNow 9 = .ok (.if_icmp .ge 38, 3) := by decide +kernel
theorem dX5_stopsNow_12 : decode cX5_stopsNow 12 = .ok (.aload_n 0, 1) := by decide +kernel
theorem dX5_stopsNow_13 : decode cX5_stopsNow 13 = .ok (.iload_n 2, 1) := by decide +kernel
theorem dX5_stopsNow_14 : decode cX5_stopsNow 14 = .ok (.iload_n 1, 1) := by decide +kernel
theorem dX5_stopsNow_15 : decode cX5_stopsNow 15 = .ok (.invokevirtual 72, 3) := by decide +kernel
theorem dX5_stopsNow_18 : decode cX5_stopsNow 18 = .ok (.ifCond .eq 23, 3) := by decide +kernel
theorem dX5_stopsNow_21 : decode cX5_stopsNow 21 = .ok (.aload_n 0, 1) := by decide +kernel
theorem dX5_stopsNow_22 : decode cX5_stopsNow 22 = .ok (.iload_n 2, 1) := by decide +kernel
theorem dX5_stopsNow_23 : decode cX5_stopsNow 23 = .ok (.iconst 2, 1) := by decide +kernel
theorem dX5_stopsNow_24 : decode cX5_stopsNow 24 = .ok (.iconst 3, 1) := by decide +kernel
theorem dX5_stopsNow_25 : decode cX5_stopsNow 25 = .ok (.invokevirtual 68, 3) := by decide +kernel
theorem dX5_stopsNow_28 : decode cX5_stopsNow 28 = .ok (.aload_n 0, 1) := by decide +kernel
theorem dX5_stopsNow_29 : decode cX5_stopsNow 29 = .ok (.iload_n 2, 1) := by decide +kernel
theorem dX5_stopsNow_30 : decode cX5_stopsNow 30 = .ok (.bipush 6, 2) := by decide +kernel
theorem dX5_stopsNow_32 : decode cX5_stopsNow 32 = .ok (.aload_n 0, 1) := by decide +kernel
theorem dX5_stopsNow_33 : decode cX5_stopsNow 33 = .ok (.getfield 7, 3) := by decide +kernel
theorem dX5_stopsNow_36 : decode cX5_stopsNow 36 = .ok (.iconst 0, 1) := by decide +kernel
theorem dX5_stopsNow_37 : decode cX5_stopsNow 37 = .ok (.iaload, 1) := by decide +kernel
theorem dX5_stopsNow_38 : decode cX5_stopsNow 38 = .ok (.invokevirtual 68, 3) := by decide +kernel
theorem dX5_stopsNow_41 : decode cX5_stopsNow 41 = .ok (.iinc 2 1, 3) := by decide +kernel
theorem dX5_stopsNow_44 : decode cX5_stopsNow 44 = .ok (.goto (-42), 3) := by decide +kernel
theorem dX5_stopsNow_47 : decode cX5_stopsNow 47 = .ok (.iconst 0, 1) := by decide +kernel
theorem dX5_stopsNow_48 : decode cX5_stopsNow 48 = .ok (.istore_n 2, 1) := by decide +kernel
theorem dX5_stopsNow_49 : decode cX5_stopsNow 49 = .ok (.iload_n 2, 1) := by decide +kernel
theorem dX5_stopsNow_50 : decode cX5_stopsNow 50 = .ok (.aload_n 0, 1) := by decide +kernel
theorem dX5_stopsNow_51 : decode cX5_stopsNow 51 = .ok (.getfield 7, 3) := by decide +kernel
theorem dX5_stopsNow_54 : decode cX5_stopsNow 54 = .ok (.iconst 2, 1) := by decide +kernel
theorem dX5_stopsNow_55 : decode cX5_stopsNow 55 = .ok (.iaload, 1) := by decide +kernel
theorem dX5_stopsNow_56 : decode cX5_stopsNow 56 = .ok (.if_icmp .ge 52, 3) := by decide +kernel
theorem dX5_stopsNow_59 : decode cX5_stopsNow 59 = .ok (.aload_n 0, 1) := by decide +kernel
theorem dX5_stopsNow_60 : decode cX5_stopsNow 60 = .ok (.iload_n 2, 1) := by decide +kernel
theorem dX5_stopsNow_61 : decode cX5_stopsNow 61 = .ok (.iload_n 1, 1) := by decide +kernel
theorem dX5_stopsNow_62 : decode cX5_stopsNow 62 = .ok (.invokevirtual 76, 3) := by decide +kernel
theorem dX5_stopsNow_65 : decode cX5_stopsNow 65 = .ok (.ifCond .eq 37, 3) := by decide +kernel
theorem dX5_stopsNow_68 : decode cX5_stopsNow 68 = .ok (.aload_n 0, 1) := by decide +kernel
theorem dX5_stopsNow_69 : decode cX5_stopsNow 69 = .ok (.iload_n 1, 1) := by decide +kernel
theorem dX5_stopsNow_70 : decode cX5_stopsNow 70 = .ok (.iconst 2, 1) := by decide +kernel
theorem dX5_stopsNow_71 : decode cX5_stopsNow 71 = .ok (.invokevirtual 55, 3) := by decide +kernel
theorem dX5_stopsNow_74 : decode cX5_stopsNow 74 = .ok (.aload_n 0, 1) := by decide +kernel
theorem dX5_stopsNow_75 : decode cX5_stopsNow 75 = .ok (.iload_n 1, 1) := by decide +kernel
theorem dX5_stopsNow_76 : decode cX5_stopsNow 76 = .ok (.iconst 2, 1) := by decide +kernel
theorem dX5_stopsNow_77 : decode cX5_stopsNow 77 = .ok (.invokevirtual 38, 3) := by decide +kernel
theorem dX5_stopsNow_80 : decode cX5_stopsNow 80 = .ok (.if_icmp .ge 22, 3) := by decide +kernel
theorem dX5_stopsNow_83 : decode cX5_stopsNow 83 = .ok (.aload_n 0, 1) := by decide +kernel
theorem dX5_stopsNow_84 : decode cX5_stopsNow 84 = .ok (.iload_n 2, 1) := by decide +kernel
theorem dX5_stopsNow_85 : decode cX5_stopsNow 85 = .ok (.iconst 2, 1) := by decide +kernel
theorem dX5_stopsNow_86 : decode cX5_stopsNow 86 = .ok (.iconst 2, 1) := by decide +kernel
theorem dX5_stopsNow_87 : decode cX5_stopsNow 87 = .ok (.invokevirtual 68, 3) := by decide +kernel
theorem dX5_stopsNow_90 : decode cX5_stopsNow 90 = .ok (.aload_n 0, 1) := by decide +kernel
theorem dX5_stopsNow_91 : decode cX5_stopsNow 91 = .ok (.iload_n 2, 1) := by decide +kernel
theorem dX5_stopsNow_92 : decode cX5_stopsNow 92 = .ok (.iconst 5, 1) := by decide +kernel
theorem dX5_stopsNow_93 : decode cX5_stopsNow 93 = .ok (.aload_n 0, 1) := by decide +kernel
theorem dX5_stopsNow_94 : decode cX5_stopsNow 94 = .ok (.getfield 7, 3) := by decide +kernel
theorem dX5_stopsNow_97 : decode cX5_stopsNow 97 = .ok (.iconst 0, 1) := by decide +kernel
theorem dX5_stopsNow_98 : decode cX5_stopsNow 98 = .ok (.iaload, 1) := by decide +kernel
theorem dX5_stopsNow_99 : decode cX5_stopsNow 99 = .ok (.invokevirtual 68, 3) := by decide +kernel
theorem dX5_stopsNow_102 : decode cX5_stopsNow 102 = .ok (.iinc 2 1, 3) := by decide +kernel
theorem dX5_stopsNow_105 : decode cX5_stopsNow 105 = .ok (.goto (-56), 3) := by decide +kernel
theorem dX5_stopsNow_108 : decode cX5_stopsNow 108 = .ok (.aload_n 0, 1) := by decide +kernel
theorem dX5_stopsNow_109 : decode cX5_stopsNow 109 = .ok (.getfield 7, 3) := by decide +kernel
theorem dX5_stopsNow_112 : decode cX5_stopsNow 112 = .ok (.iconst 3, 1) := by decide +kernel
theorem dX5_stopsNow_113 : decode cX5_stopsNow 113 = .ok (.dup2, 1) := by decide +kernel
theorem dX5_stopsNow_114 : decode cX5_stopsNow 114 = .ok (.iaload, 1) := by decide +kernel
theorem dX5_stopsNow_115 : decode cX5_stopsNow 115 = .ok (.iconst 1, 1) := by decide +kernel
theorem dX5_stopsNow_116 : decode cX5_stopsNow 116 = .ok (.iadd, 1) := by decide +kernel
theorem dX5_stopsNow_117 : decode cX5_stopsNow 117 = .ok (.iastore, 1) := by decide +kernel
theorem dX5_stopsNow_118 : decode cX5_stopsNow 118 = .ok (.return_, 1) := by decide +kernel
set_option maxRecDepth 20000 in
theorem ggX5_ticks_X5_ofCaller : GoodIn wsX5_ticks wsX5_ofCaller := goodIn_r _ [6, 1, 80, 81, 82, 83, 84] (by decide +kernel) (by decide +kernel)
set_option maxRecDepth 20000 in
theorem gX5_ticks_X5_ofCaller : GoodIn wsX5_ticks (wsV RX5 34 RX5 yX5_ofCaller wsX5_ofCaller) := goodIn_app (goodIn_of _ (by decide +kernel)) ggX5_ticks_X5_ofCaller
set_option maxRecDepth 20000 in
theorem ggX5_ticks_X5_gives : GoodIn wsX5_ticks wsX5_gives := goodIn_r _ [10, 2, 3, 4, 5, 6, 1, 11, 12, 13, 14, 15, 16, 17, 18, 19, 20, 21, 22, 23, 24, 25, 26, 27, 28, 29, 30, 31, 32, 33, 34, 35, 36, 37, 38, 39, 40, 41, 42, 43, 44, 45, 46, 47, 48, 49, 50, 51, 52, 53, 54, 55, 80, 81, 82, 83, 84] (by decide +kernel) (by decide +kernel)
set_option maxRecDepth 20000 in
theorem gX5_ticks_X5_gives : GoodIn wsX5_ticks (wsV RX5 79 RX5 yX5_gives wsX5_gives) := goodIn_app (goodIn_of _ (by decide +kernel)) ggX5_ticks_X5_gives
set_option maxRecDepth 20000 in
theorem ggX5_ticks_X5_ofCar : GoodIn wsX5_ticks wsX5_ofCar := goodIn_r _ [22, 1, 80, 81, 82, 83, 84] (by decide +kernel) (by decide +kernel)
set_option maxRecDepth 20000 in
theorem gX5_ticks_X5_ofCar : GoodIn wsX5_ticks (wsV RX5 38 RX5 yX5_ofCar wsX5_ofCar) := goodIn_app (goodIn_of _ (by decide +kernel)) ggX5_ticks_X5_ofCar
set_option maxRecDepth 20000 in
theorem ggX5_ticks_X5_aim : GoodIn wsX5_ticks wsX5_aim := goodIn_r _ [59, 1, 19, 20, 21, 5, 22, 2, 3, 4, 6, 45, 46, 47, 80, 81, 82, 83, 84] (by decide +kernel) (by decide +kernel)
set_option maxRecDepth 20000 in
theorem gX5_ticks_X5_aim : GoodIn wsX5_ticks (wsV RX5 83 RX5 yX5_aim wsX5_aim) := goodIn_app (goodIn_of _ (by decide +kernel)) ggX5_ticks_X5_aim
set_option maxRecDepth 20000 in
theorem ggX5_ticks_X5_isStop : GoodIn wsX5_ticks wsX5_isStop := goodIn_r _ [63, 1, 64, 65, 66, 5, 67, 2, 3, 4, 6, 19, 20, 21, 22, 68, 69, 70, 71, 48, 49, 50, 51, 80, 81, 82, 83, 84] (by decide +kernel) (by decide +kernel)
set_option maxRecDepth 20000 in
theorem gX5_ticks_X5_isStop : GoodIn wsX5_ticks (wsV RX5 86 RX5 yX5_isStop wsX5_isStop) := goodIn_app (goodIn_of _ (by decide +kernel)) ggX5_ticks_X5_isStop
set_option maxRecDepth 20000 in
theorem ggX5_ticks_X5_stopsNow : GoodIn wsX5_ticks wsX5_stopsNow := goodIn_r _ [75, 1, 64, 65, 66, 5, 67, 2, 3, 4, 6, 19, 20, 21, 22, 52, 53, 54, 55, 68, 69, 70, 71, 48, 49, 50, 51, 80, 81, 82, 83, 84] (by decide +kernel) (by decide +kernel)
set_option maxRecDepth 20000 in
theorem gX5_ticks_X5_stopsNow : GoodIn wsX5_ticks (wsV RX5 89 RX5 yX5_stopsNow wsX5_stopsNow) := goodIn_app (goodIn_of _ (by decide +kernel)) ggX5_ticks_X5_stopsNow
set_option maxRecDepth 20000 in
theorem ggX5_ticks_X5_putsCar : GoodIn wsX5_ticks wsX5_putsCar := goodIn_r _ [79, 1, 80, 81, 82, 83, 84] (by decide +kernel) (by decide +kernel)
set_option maxRecDepth 20000 in
theorem gX5_ticks_X5_putsCar : GoodIn wsX5_ticks (wsV RX5 92 RX5 yX5_putsCar wsX5_putsCar) := goodIn_app (goodIn_of _ (by decide +kernel)) ggX5_ticks_X5_putsCar
theorem dX5_ticks_0 : decode cX5_ticks 0 = .ok (.iconst 0, 1) := by decide +kernel
theorem dX5_ticks_1 : decode cX5_ticks 1 = .ok (.istore_n 1, 1) := by decide +kernel
theorem dX5_ticks_2 : decode cX5_ticks 2 = .ok (.iload_n 1, 1) := by decide +kernel
theorem dX5_ticks_3 : decode cX5_ticks 3 = .ok (.aload_n 0, 1) := by decide +kernel
theorem dX5_ticks_4 : decode cX5_ticks 4 = .ok (.getfield 7, 3) := by decide +kernel
theorem dX5_ticks_7 : decode cX5_ticks 7 = .ok (.iconst 2, 1) := by decide +kernel
theorem dX5_ticks_8 : decode cX5_ticks 8 = .ok (.iaload, 1) := by decide +kernel
theorem dX5_ticks_9 : decode cX5_ticks 9 = .ok (.if_icmp .ge 23, 3) := by decide +kernel
theorem dX5_ticks_12 : decode cX5_ticks 12 = .ok (.aload_n 0, 1) := by decide +kernel
theorem dX5_ticks_13 : decode cX5_ticks 13 = .ok (.iload_n 1, 1) := by decide +kernel
theorem dX5_ticks_14 : decode cX5_ticks 14 = .ok (.iconst 2, 1) := by decide +kernel
theorem dX5_ticks_15 : decode cX5_ticks 15 = .ok (.invokevirtual 34, 3) := by decide +kernel
theorem dX5_ticks_18 : decode cX5_ticks 18 = .ok (.ifCond .ne 8, 3) := by decide +kernel
theorem dX5_ticks_21 : decode cX5_ticks 21 = .ok (.aload_n 0, 1) := by decide +kernel
theorem dX5_ticks_22 : decode cX5_ticks 22 = .ok (.iload_n 1, 1) := by decide +kernel
theorem dX5_ticks_23 : decode cX5_ticks 23 = .ok (.invokevirtual 79, 3) := by decide +kernel
theorem dX5_ticks_26 : decode cX5_ticks 26 = .ok (.iinc 1 1, 3) := by decide +kernel
theorem dX5_ticks_29 : decode cX5_ticks 29 = .ok (.goto (-27), 3) := by decide +kernel
theorem dX5_ticks_32 : decode cX5_ticks 32 = .ok (.iconst 0, 1) := by decide +kernel
theorem dX5_ticks_33 : decode cX5_ticks 33 = .ok (.istore_n 1, 1) := by decide +kernel
theorem dX5_ticks_34 : decode cX5_ticks 34 = .ok (.iload_n 1, 1) := by decide +kernel
theorem dX5_ticks_35 : decode cX5_ticks 35 = .ok (.aload_n 0, 1) := by decide +kernel
theorem dX5_ticks_36 : decode cX5_ticks 36 = .ok (.getfield 7, 3) := by decide +kernel
theorem dX5_ticks_39 : decode cX5_ticks 39 = .ok (.iconst 1, 1) := by decide +kernel
theorem dX5_ticks_40 : decode cX5_ticks 40 = .ok (.iaload, 1) := by decide +kernel
theorem dX5_ticks_41 : decode cX5_ticks 41 = .ok (.if_icmp .ge 88, 3) := by decide +kernel
theorem dX5_ticks_44 : decode cX5_ticks 44 = .ok (.aload_n 0, 1) := by decide +kernel
theorem dX5_ticks_45 : decode cX5_ticks 45 = .ok (.iload_n 1, 1) := by decide +kernel
theorem dX5_ticks_46 : decode cX5_ticks 46 = .ok (.iconst 4, 1) := by decide +kernel
theorem dX5_ticks_47 : decode cX5_ticks 47 = .ok (.invokevirtual 38, 3) := by decide +kernel
theorem dX5_ticks_50 : decode cX5_ticks 50 = .ok (.ifCond .ne 73, 3) := by decide +kernel
theorem dX5_ticks_53 : decode cX5_ticks 53 = .ok (.aload_n 0, 1) := by decide +kernel
theorem dX5_ticks_54 : decode cX5_ticks 54 = .ok (.iload_n 1, 1) := by decide +kernel
theorem dX5_ticks_55 : decode cX5_ticks 55 = .ok (.invokevirtual 83, 3) := by decide +kernel
theorem dX5_ticks_58 : decode cX5_ticks 58 = .ok (.istore_n 2, 1) := by decide +kernel
theorem dX5_ticks_59 : decode cX5_ticks 59 = .ok (.aload_n 0, 1) := by decide +kernel
theorem dX5_ticks_60 : decode cX5_ticks 60 = .ok (.iload_n 1, 1) := by decide +kernel
theorem dX5_ticks_61 : decode cX5_ticks 61 = .ok (.invokevirtual 86, 3) := by decide +kernel
theorem dX5_ticks_64 : decode cX5_ticks 64 = .ok (.ifCond .eq 11, 3) := by decide +kernel
theorem dX5_ticks_67 : decode cX5_ticks 67 = .ok (.aload_n 0, 1) := by decide +kernel
theorem dX5_ticks_68 : decode cX5_ticks 68 = .ok (.iload_n 1, 1) := by decide +kernel
theorem dX5_ticks_69 : decode cX5_ticks 69 = .ok (.invokevirtual 89, 3) := by decide +kernel
theorem dX5_ticks_72 : decode cX5_ticks 72 = .ok (.goto 51, 3) := by decide +kernel
theorem dX5_ticks_75 : decode cX5_ticks 75 = .ok (.iload_n 2, 1) := by decide +kernel
theorem dX5_ticks_76 : decode cX5_ticks 76 = .ok (.bipush (-9), 2) := by decide +kernel
theorem dX5_ticks_78 : decode cX5_ticks 78 = .ok (.if_icmp .eq 45, 3) := by decide +kernel
theorem dX5_ticks_81 : decode cX5_ticks 81 = .ok (.aload_n 0, 1) := by decide +kernel
theorem dX5_ticks_82 : decode cX5_ticks 82 = .ok (.iload_n 1, 1) := by decide +kernel
theorem dX5_ticks_83 : decode cX5_ticks 83 = .ok (.iconst 3, 1) := by decide +kernel
theorem dX5_ticks_84 : decode cX5_ticks 84 = .ok (.aload_n 0, 1) := by decide +kernel
theorem dX5_ticks_85 : decode cX5_ticks 85 = .ok (.iload_n 1, 1) := by decide +kernel
theorem dX5_ticks_86 : decode cX5_ticks 86 = .ok (.iconst 3, 1) := by decide +kernel
theorem dX5_ticks_87 : decode cX5_ticks 87 = .ok (.invokevirtual 38, 3) := by decide +kernel
theorem dX5_ticks_90 : decode cX5_ticks 90 = .ok (.iload_n 2, 1) := by decide +kernel
theorem dX5_ticks_91 : decode cX5_ticks 91 = .ok (.aload_n 0, 1) := by decide +kernel
theorem dX5_ticks_92 : decode cX5_ticks 92 = .ok (.iload_n 1, 1) := by decide +kernel
theorem dX5_ticks_93 : decode cX5_ticks 93 = .ok (.iconst 3, 1) := by decide +kernel
theorem dX5_ticks_94 : decode cX5_ticks 94 = .ok (.invokevirtual 38, 3) := by decide +kernel
theorem dX5_ticks_97 : decode cX5_ticks 97 = .ok (.if_icmp .le 7, 3) := by decide +kernel
theorem dX5_ticks_100 : decode cX5_ticks 100 = .ok (.iconst 1, 1) := by decide +kernel
theorem dX5_ticks_101 : decode cX5_ticks 101 = .ok (.goto 4, 3) := by decide +kernel
theorem dX5_ticks_104 : decode cX5_ticks 104 = .ok (.iconst (-1), 1) := by decide +kernel
theorem dX5_ticks_105 : decode cX5_ticks 105 = .ok (.iadd, 1) := by decide +kernel
theorem dX5_ticks_106 : decode cX5_ticks 106 = .ok (.invokevirtual 92, 3) := by decide +kernel
theorem dX5_ticks_109 : decode cX5_ticks 109 = .ok (.aload_n 0, 1) := by decide +kernel
theorem dX5_ticks_110 : decode cX5_ticks 110 = .ok (.iload_n 1, 1) := by decide +kernel
theorem dX5_ticks_111 : decode cX5_ticks 111 = .ok (.iconst 5, 1) := by decide +kernel
theorem dX5_ticks_112 : decode cX5_ticks 112 = .ok (.aload_n 0, 1) := by decide +kernel
theorem dX5_ticks_113 : decode cX5_ticks 113 = .ok (.iload_n 1, 1) := by decide +kernel
theorem dX5_ticks_114 : decode cX5_ticks 114 = .ok (.iconst 5, 1) := by decide +kernel
theorem dX5_ticks_115 : decode cX5_ticks 115 = .ok (.invokevirtual 38, 3) := by decide +kernel
theorem dX5_ticks_118 : decode cX5_ticks 118 = .ok (.iconst 1, 1) := by decide +kernel
theorem dX5_ticks_119 : decode cX5_ticks 119 = .ok (.iadd, 1) := by decide +kernel
theorem dX5_ticks_120 : decode cX5_ticks 120 = .ok (.invokevirtual 92, 3) := by decide +kernel
theorem dX5_ticks_123 : decode cX5_ticks 123 = .ok (.iinc 1 1, 3) := by decide +kernel
theorem dX5_ticks_126 : decode cX5_ticks 126 = .ok (.goto (-92), 3) := by decide +kernel
theorem dX5_ticks_129 : decode cX5_ticks 129 = .ok (.aload_n 0, 1) := by decide +kernel
theorem dX5_ticks_130 : decode cX5_ticks 130 = .ok (.getfield 7, 3) := by decide +kernel
theorem dX5_ticks_133 : decode cX5_ticks 133 = .ok (.iconst 0, 1) := by decide +kernel
theorem dX5_ticks_134 : decode cX5_ticks 134 = .ok (.dup2, 1) := by decide +kernel
theorem dX5_ticks_135 : decode cX5_ticks 135 = .ok (.iaload, 1) := by decide +kernel
theorem dX5_ticks_136 : decode cX5_ticks 136 = .ok (.iconst 1, 1) := by decide +kernel
theorem dX5_ticks_137 : decode cX5_ticks 137 = .ok (.iadd, 1) := by decide +kernel
theorem dX5_ticks_138 : decode cX5_ticks 138 = .ok (.iastore, 1) := by decide +kernel
theorem dX5_ticks_139 : decode cX5_ticks 139 = .ok (.return_, 1) := by decide +kernel
set_option maxRecDepth 20000 in
theorem ggX5_fails_X5_ofCaller : GoodIn wsX5_fails wsX5_ofCaller := goodIn_r _ [6, 1, 26, 27, 28, 29, 30] (by decide +kernel) (by decide +kernel)
set_option maxRecDepth 20000 in
theorem gX5_fails_X5_ofCaller : GoodIn wsX5_fails (wsV RX5 34 RX5 yX5_ofCaller wsX5_ofCaller) := goodIn_app (goodIn_of _ (by decide +kernel)) ggX5_fails_X5_ofCaller
set_option maxRecDepth 20000 in
theorem ggX5_fails_X5_in : GoodIn wsX5_fails wsX5_in := goodIn_r _ [9] (by decide +kernel) (by decide +kernel)
set_option maxRecDepth 20000 in
theorem gX5_fails_X5_in : GoodIn wsX5_fails (va_wsS RX5 26 yX5_in wsX5_in) := goodIn_app (goodIn_of _ (by decide +kernel)) ggX5_fails_X5_in
set_option maxRecDepth 20000 in
theorem ggX5_fails_X5_isOut : GoodIn wsX5_fails wsX5_isOut := goodIn_r _ [13, 2, 3, 4, 5, 6, 1, 14, 15, 16, 17, 26, 27, 28, 29, 30] (by decide +kernel) (by decide +kernel)
set_option maxRecDepth 20000 in
theorem gX5_fails_X5_isOut : GoodIn wsX5_fails (wsV RX5 72 RX5 yX5_isOut wsX5_isOut) := goodIn_app (goodIn_of _ (by decide +kernel)) ggX5_fails_X5_isOut
set_option maxRecDepth 20000 in
theorem ggX5_fails_X5_ofCar : GoodIn wsX5_fails wsX5_ofCar := goodIn_r _ [17, 1, 26, 27, 28, 29, 30] (by decide +kernel) (by decide +kernel)
set_option maxRecDepth 20000 in
theorem gX5_fails_X5_ofCar : GoodIn wsX5_fails (wsV RX5 38 RX5 yX5_ofCar wsX5_ofCar) := goodIn_app (goodIn_of _ (by decide +kernel)) ggX5_fails_X5_ofCar
set_option maxRecDepth 20000 in
theorem ggX5_fails_X5_puts : GoodIn wsX5_fails wsX5_puts := goodIn_r _ [21, 1, 26, 27, 28, 29, 30] (by decide +kernel) (by decide +kernel)
set_option maxRecDepth 20000 in
theorem gX5_fails_X5_puts : GoodIn wsX5_fails (wsV RX5 68 RX5 yX5_puts wsX5_puts) := goodIn_app (goodIn_of _ (by decide +kernel)) ggX5_fails_X5_puts
set_option maxRecDepth 20000 in
theorem ggX5_fails_X5_putsCar : GoodIn wsX5_fails wsX5_putsCar := goodIn_r _ [25, 1, 26, 27, 28, 29, 30] (by decide +kernel) (by decide +kernel)
set_option maxRecDepth 20000 in
theorem gX5_fails_X5_putsCar : GoodIn wsX5_fails (wsV RX5 92 RX5 yX5_putsCar wsX5_putsCar) := goodIn_app (goodIn_of _ (by decide +kernel)) ggX5_fails_X5_putsCar
theorem dX5_fails_0 : decode cX5_fails 0 = .ok (.iconst 0, 1) := by decide +kernel
theorem dX5_fails_1 : decode cX5_fails 1 = .ok (.istore_n 2, 1) := by decide +kernel
theorem dX5_fails_2 : decode cX5_fails 2 = .ok (.iload_n 2, 1) := by decide +kernel
theorem dX5_fails_3 : decode cX5_fails 3 = .ok (.aload_n 0, 1) := by decide +kernel
theorem dX5_fails_4 : decode cX5_fails 4 = .ok (.getfield 7, 3) := by decide +kernel
theorem dX5_fails_7 : decode cX5_fails 7 = .ok (.iconst 2, 1) := by decide +kernel
theorem dX5_fails_8 : decode cX5_fails 8 = .ok (.iaload, 1) := by decide +kernel
theorem dX5_fails_9 : decode cX5_fails 9 = .ok (.if_icmp .ge 124, 3) := by decide +kernel
theorem dX5_fails_12 : decode cX5_fails 12 = .ok (.aload_n 0, 1) := by decide +kernel
theorem dX5_fails_13 : decode cX5_fails 13 = .ok (.iload_n 2, 1) := by decide +kernel
theorem dX5_fails_14 : decode cX5_fails 14 = .ok (.iconst 3, 1) := by decide +kernel
theorem dX5_fails_15 : decode cX5_fails 15 = .ok (.invokevirtual 34, 3) := by decide +kernel
theorem dX5_fails_18 : decode cX5_fails 18 = .ok (.iload_n 1, 1) := by decide +kernel
theorem dX5_fails_19 : decode cX5_fails 19 = .ok (.if_icmp .ne 108, 3) := by decide +kernel
theorem dX5_fails_22 : decode cX5_fails 22 = .ok (.aload_n 0, 1) := by decide +kernel
theorem dX5_fails_23 : decode cX5_fails 23 = .ok (.iload_n 2, 1) := by decide +kernel
theorem dX5_fails_24 : decode cX5_fails 24 = .ok (.iconst 2, 1) := by decide +kernel
theorem dX5_fails_25 : decode cX5_fails 25 = .ok (.invokevirtual 34, 3) := by decide +kernel
theorem dX5_fails_28 : decode cX5_fails 28 = .ok (.iconst 1, 1) := by decide +kernel
theorem dX5_fails_29 : decode cX5_fails 29 = .ok (.iconst 2, 1) := by decide +kernel
theorem dX5_fails_30 : decode cX5_fails 30 = .ok (.invokestatic 26, 3) := by decide +kernel
theorem dX5_fails_33 : decode cX5_fails 33 = .ok (.ifCond .eq 94, 3) := by decide +kernel
theorem dX5_fails_36 : decode cX5_fails 36 = .ok (.aload_n 0, 1) := by decide +kernel
theorem dX5_fails_37 : decode cX5_fails 37 = .ok (.iload_n 2, 1) := by decide +kernel
theorem dX5_fails_38 : decode cX5_fails 38 = .ok (.iload_n 1, 1) := by decide +kernel
theorem dX5_fails_39 : decode cX5_fails 39 = .ok (.invokevirtual 72, 3) := by decide +kernel
theorem dX5_fails_42 : decode cX5_fails 42 = .ok (.istore_n 3, 1) := by decide +kernel
theorem dX5_fails_43 : decode cX5_fails 43 = .ok (.aload_n 0, 1) := by decide +kernel
theorem dX5_fails_44 : decode cX5_fails 44 = .ok (.iload_n 2, 1) := by decide +kernel
theorem dX5_fails_45 : decode cX5_fails 45 = .ok (.iconst 0, 1) := by decide +kernel
theorem dX5_fails_46 : decode cX5_fails 46 = .ok (.aload_n 0, 1) := by decide +kernel
theorem dX5_fails_47 : decode cX5_fails 47 = .ok (.iload_n 2, 1) := by decide +kernel
theorem dX5_fails_48 : decode cX5_fails 48 = .ok (.iconst 2, 1) := by decide +kernel
theorem dX5_fails_49 : decode cX5_fails 49 = .ok (.invokevirtual 34, 3) := by decide +kernel
theorem dX5_fails_52 : decode cX5_fails 52 = .ok (.iconst 2, 1) := by decide +kernel
theorem dX5_fails_53 : decode cX5_fails 53 = .ok (.if_icmp .ne 12, 3) := by decide +kernel
theorem dX5_fails_56 : decode cX5_fails 56 = .ok (.aload_n 0, 1) := by decide +kernel
theorem dX5_fails_57 : decode cX5_fails 57 = .ok (.iload_n 1, 1) := by decide +kernel
theorem dX5_fails_58 : decode cX5_fails 58 = .ok (.iconst 3, 1) := by decide +kernel
theorem dX5_fails_59 : decode cX5_fails 59 = .ok (.invokevirtual 38, 3) := by decide +kernel
theorem dX5_fails_62 : decode cX5_fails 62 = .ok (.goto 9, 3) := by decide +kernel
theorem dX5_fails_65 : decode cX5_fails 65 = .ok (.aload_n 0, 1) := by decide +kernel
theorem dX5_fails_66 : decode cX5_fails 66 = .ok (.iload_n 2, 1) := by decide +kernel
theorem dX5_fails_67 : decode cX5_fails 67 = .ok (.iconst 0, 1) := by decide +kernel
theorem dX5_fails_68 : decode cX5_fails 68 = .ok (.invokevirtual 34, 3) := by decide +kernel
theorem dX5_fails_71 : decode cX5_fails 71 = .ok (.invokevirtual 68, 3) := by decide +kernel
theorem dX5_fails_74 : decode cX5_fails 74 = .ok (.aload_n 0, 1) := by decide +kernel
theorem dX5_fails_75 : decode cX5_fails 75 = .ok (.iload_n 2, 1) := by decide +kernel
theorem dX5_fails_76 : decode cX5_fails 76 = .ok (.bipush 6, 2) := by decide +kernel
theorem dX5_fails_78 : decode cX5_fails 78 = .ok (.iload_n 3, 1) := by decide +kernel
theorem dX5_fails_79 : decode cX5_fails 79 = .ok (.ifCond .eq 12, 3) := by decide +kernel
theorem dX5_fails_82 : decode cX5_fails 82 = .ok (.aload_n 0, 1) := by decide +kernel
theorem dX5_fails_83 : decode cX5_fails 83 = .ok (.getfield 7, 3) := by decide +kernel
theorem dX5_fails_86 : decode cX5_fails 86 = .ok (.iconst 0, 1) := by decide +kernel
theorem dX5_fails_87 : decode cX5_fails 87 = .ok (.iaload, 1) := by decide +kernel
theorem dX5_fails_88 : decode cX5_fails 88 = .ok (.goto 5, 3) := by decide +kernel
theorem dX5_fails_91 : decode cX5_fails 91 = .ok (.bipush (-9), 2) := by decide +kernel
theorem dX5_fails_93 : decode cX5_fails 93 = .ok (.invokevirtual 68, 3) := by decide +kernel
theorem dX5_fails_96 : decode cX5_fails 96 = .ok (.aload_n 0, 1) := by decide +kernel
theorem dX5_fails_97 : decode cX5_fails 97 = .ok (.iload_n 2, 1) := by decide +kernel
theorem dX5_fails_98 : decode cX5_fails 98 = .ok (.iconst 3, 1) := by decide +kernel
theorem dX5_fails_99 : decode cX5_fails 99 = .ok (.iload_n 3, 1) := by decide +kernel
theorem dX5_fails_100 : decode cX5_fails 100 = .ok (.ifCond .eq 7, 3) := by decide +kernel
theorem dX5_fails_103 : decode cX5_fails 103 = .ok (.iload_n 1, 1) := by decide +kernel
theorem dX5_fails_104 : decode cX5_fails 104 = .ok (.goto 5, 3) := by decide +kernel
theorem dX5_fails_107 : decode cX5_fails 107 = .ok (.bipush (-9), 2) := by decide +kernel
theorem dX5_fails_109 : decode cX5_fails 109 = .ok (.invokevirtual 68, 3) := by decide +kernel
theorem dX5_fails_112 : decode cX5_fails 112 = .ok (.aload_n 0, 1) := by decide +kernel
theorem dX5_fails_113 : decode cX5_fails 113 = .ok (.iload_n 2, 1) := by decide +kernel
theorem dX5_fails_114 : decode cX5_fails 114 = .ok (.iconst 2, 1) := by decide +kernel
theorem dX5_fails_115 : decode cX5_fails 115 = .ok (.iload_n 3, 1) := by decide +kernel
theorem dX5_fails_116 : decode cX5_fails 116 = .ok (.ifCond .eq 7, 3) := by decide +kernel
theorem dX5_fails_119 : decode cX5_fails 119 = .ok (.iconst 3, 1) := by decide +kernel
theorem dX5_fails_120 : decode cX5_fails 120 = .ok (.goto 4, 3) := by decide +kernel
theorem dX5_fails_123 : decode cX5_fails 123 = .ok (.iconst 0, 1) := by decide +kernel
theorem dX5_fails_124 : decode cX5_fails 124 = .ok (.invokevirtual 68, 3) := by decide +kernel
theorem dX5_fails_127 : decode cX5_fails 127 = .ok (.iinc 2 1, 3) := by decide +kernel
theorem dX5_fails_130 : decode cX5_fails 130 = .ok (.goto (-128), 3) := by decide +kernel
theorem dX5_fails_133 : decode cX5_fails 133 = .ok (.aload_n 0, 1) := by decide +kernel
theorem dX5_fails_134 : decode cX5_fails 134 = .ok (.iload_n 1, 1) := by decide +kernel
theorem dX5_fails_135 : decode cX5_fails 135 = .ok (.iconst 4, 1) := by decide +kernel
theorem dX5_fails_136 : decode cX5_fails 136 = .ok (.iconst 2, 1) := by decide +kernel
theorem dX5_fails_137 : decode cX5_fails 137 = .ok (.invokevirtual 92, 3) := by decide +kernel
theorem dX5_fails_140 : decode cX5_fails 140 = .ok (.return_, 1) := by decide +kernel
set_option maxRecDepth 20000 in
theorem ggX5_addCar_X5_in : GoodIn wsX5_addCar wsX5_in := goodIn_r _ [5] (by decide +kernel) (by decide +kernel)
set_option maxRecDepth 20000 in
theorem gX5_addCar_X5_in : GoodIn wsX5_addCar (va_wsS RX5 26 yX5_in wsX5_in) := goodIn_app (goodIn_of _ (by decide +kernel)) ggX5_addCar_X5_in
set_option maxRecDepth 20000 in
theorem ggX5_addCar_X5_acts : GoodIn wsX5_addCar wsX5_acts := goodIn_r _ [9, 10, 11, 1, 16, 17, 18, 19, 20] (by decide +kernel) (by decide +kernel)
set_option maxRecDepth 20000 in
theorem gX5_addCar_X5_acts : GoodIn wsX5_addCar (wsV RX5 95 RX5 yX5_acts wsX5_acts) := goodIn_app (goodIn_of _ (by decide +kernel)) ggX5_addCar_X5_acts
set_option maxRecDepth 20000 in
theorem ggX5_addCar_X5_putsCar : GoodIn wsX5_addCar wsX5_putsCar := goodIn_r _ [15, 1, 16, 17, 18, 19, 20] (by decide +kernel) (by decide +kernel)
set_option maxRecDepth 20000 in
theorem gX5_addCar_X5_putsCar : GoodIn wsX5_addCar (wsV RX5 92 RX5 yX5_putsCar wsX5_putsCar) := goodIn_app (goodIn_of _ (by decide +kernel)) ggX5_addCar_X5_putsCar
theorem dX5_addCar_0 : decode cX5_addCar 0 = .ok (.iload_n 1, 1) := by decide +kernel
theorem dX5_addCar_1 : decode cX5_addCar 1 = .ok (.iconst 0, 1) := by decide +kernel
theorem dX5_addCar_2 : decode cX5_addCar 2 = .ok (.bipush 14, 2) := by decide +kernel
theorem dX5_addCar_4 : decode cX5_addCar 4 = .ok (.invokestatic 26, 3) := by decide +kernel
theorem dX5_addCar_7 : decode cX5_addCar 7 = .ok (.ifCond .eq 28, 3) := by decide +kernel
theorem dX5_addCar_10 : decode cX5_addCar 10 = .ok (.iload_n 2, 1) := by decide +kernel
theorem dX5_addCar_11 : decode cX5_addCar 11 = .ok (.iconst 1, 1) := by decide +kernel
