theorem dX1_init_0 : decode cX1_init 0 = .ok (.aload_n 0, 1) := by decide +kernel
theorem dX1_init_1 : decode cX1_init 1 = .ok (.invokespecial 3, 3) := by decide +kernel
theorem dX1_init_4 : decode cX1_init 4 = .ok (.aload_n 0, 1) := by decide +kernel
theorem dX1_init_5 : decode cX1_init 5 = .ok (.iconst 5, 1) := by decide +kernel
theorem dX1_init_6 : decode cX1_init 6 = .ok (.newarray .int, 2) := by decide +kernel
theorem dX1_init_8 : decode cX1_init 8 = .ok (.putfield 9, 3) := by decide +kernel
theorem dX1_init_11 : decode cX1_init 11 = .ok (.aload_n 0, 1) := by decide +kernel
theorem dX1_init_12 : decode cX1_init 12 = .ok (.iconst 5, 1) := by decide +kernel
theorem dX1_init_13 : decode cX1_init 13 = .ok (.newarray .int, 2) := by decide +kernel
theorem dX1_init_15 : decode cX1_init 15 = .ok (.putfield 15, 3) := by decide +kernel
theorem dX1_init_18 : decode cX1_init 18 = .ok (.aload_n 0, 1) := by decide +kernel
theorem dX1_init_19 : decode cX1_init 19 = .ok (.iconst 5, 1) := by decide +kernel
theorem dX1_init_20 : decode cX1_init 20 = .ok (.newarray .int, 2) := by decide +kernel
theorem dX1_init_22 : decode cX1_init 22 = .ok (.putfield 18, 3) := by decide +kernel
theorem dX1_init_25 : decode cX1_init 25 = .ok (.aload_n 0, 1) := by decide +kernel
theorem dX1_init_26 : decode cX1_init 26 = .ok (.iconst 5, 1) := by decide +kernel
theorem dX1_init_27 : decode cX1_init 27 = .ok (.newarray .int, 2) := by decide +kernel
theorem dX1_init_29 : decode cX1_init 29 = .ok (.putfield 21, 3) := by decide +kernel
theorem dX1_init_32 : decode cX1_init 32 = .ok (.aload_n 0, 1) := by decide +kernel
theorem dX1_init_33 : decode cX1_init 33 = .ok (.iconst 5, 1) := by decide +kernel
theorem dX1_init_34 : decode cX1_init 34 = .ok (.newarray .int, 2) := by decide +kernel
theorem dX1_init_36 : decode cX1_init 36 = .ok (.putfield 24, 3) := by decide +kernel
theorem dX1_init_39 : decode cX1_init 39 = .ok (.aload_n 0, 1) := by decide +kernel
theorem dX1_init_40 : decode cX1_init 40 = .ok (.iconst 5, 1) := by decide +kernel
theorem dX1_init_41 : decode cX1_init 41 = .ok (.newarray .int, 2) := by decide +kernel
theorem dX1_init_43 : decode cX1_init 43 = .ok (.putfield 27, 3) := by decide +kernel
theorem dX1_init_46 : decode cX1_init 46 = .ok (.return_, 1) := by decide +kernel
theorem dX1_copyFrom_0 : decode cX1_copyFrom 0 = .ok (.aload_n 0, 1) := by decide +kernel
theorem dX1_copyFrom_1 : decode cX1_copyFrom 1 = .ok (.aload_n 1, 1) := by decide +kernel
theorem dX1_copyFrom_2 : decode cX1_copyFrom 2 = .ok (.getfield 30, 3) := by decide +kernel
theorem dX1_copyFrom_5 : decode cX1_copyFrom 5 = .ok (.putfield 30, 3) := by decide +kernel
theorem dX1_copyFrom_8 : decode cX1_copyFrom 8 = .ok (.aload_n 0, 1) := by decide +kernel
theorem dX1_copyFrom_9 : decode cX1_copyFrom 9 = .ok (.aload_n 1, 1) := by decide +kernel
theorem dX1_copyFrom_10 : decode cX1_copyFrom 10 = .ok (.getfield 34, 3) := by decide +kernel
theorem dX1_copyFrom_13 : decode cX1_copyFrom 13 = .ok (.putfield 34, 3) := by decide +kernel
theorem dX1_copyFrom_16 : decode cX1_copyFrom 16 = .ok (.aload_n 1, 1) := by decide +kernel
theorem dX1_copyFrom_17 : decode cX1_copyFrom 17 = .ok (.getfield 9, 3) := by decide +kernel
theorem dX1_copyFrom_20 : decode cX1_copyFrom 20 = .ok (.iconst 0, 1) := by decide +kernel
theorem dX1_copyFrom_21 : decode cX1_copyFrom 21 = .ok (.aload_n 0, 1) := by decide +kernel
theorem dX1_copyFrom_22 : decode cX1_copyFrom 22 = .ok (.getfield 9, 3) := by decide +kernel
theorem dX1_copyFrom_25 : decode cX1_copyFrom 25 = .ok (.iconst 0, 1) := by decide +kernel
theorem dX1_copyFrom_26 : decode cX1_copyFrom 26 = .ok (.iconst 5, 1) := by decide +kernel
theorem dX1_copyFrom_27 : decode cX1_copyFrom 27 = .ok (.invokestatic 37, 3) := by decide +kernel
theorem dX1_copyFrom_30 : decode cX1_copyFrom 30 = .ok (.aload_n 1, 1) := by decide +kernel
theorem dX1_copyFrom_31 : decode cX1_copyFrom 31 = .ok (.getfield 15, 3) := by decide +kernel
theorem dX1_copyFrom_34 : decode cX1_copyFrom 34 = .ok (.iconst 0, 1) := by decide +kernel
theorem dX1_copyFrom_35 : decode cX1_copyFrom 35 = .ok (.aload_n 0, 1) := by decide +kernel
theorem dX1_copyFrom_36 : decode cX1_copyFrom 36 = .ok (.getfield 15, 3) := by decide +kernel
theorem dX1_copyFrom_39 : decode cX1_copyFrom 39 = .ok (.iconst 0, 1) := by decide +kernel
theorem dX1_copyFrom_40 : decode cX1_copyFrom 40 = .ok (.iconst 5, 1) := by decide +kernel
theorem dX1_copyFrom_41 : decode cX1_copyFrom 41 = .ok (.invokestatic 37, 3) := by decide +kernel
theorem dX1_copyFrom_44 : decode cX1_copyFrom 44 = .ok (.aload_n 1, 1) := by decide +kernel
theorem dX1_copyFrom_45 : decode cX1_copyFrom 45 = .ok (.getfield 18, 3) := by decide +kernel
theorem dX1_copyFrom_48 : decode cX1_copyFrom 48 = .ok (.iconst 0, 1) := by decide +kernel
theorem dX1_copyFrom_49 : decode cX1_copyFrom 49 = .ok (.aload_n 0, 1) := by decide +kernel
theorem dX1_copyFrom_50 : decode cX1_copyFrom 50 = .ok (.getfield 18, 3) := by decide +kernel
theorem dX1_copyFrom_53 : decode cX1_copyFrom 53 = .ok (.iconst 0, 1) := by decide +kernel
theorem dX1_copyFrom_54 : decode cX1_copyFrom 54 = .ok (.iconst 5, 1) := by decide +kernel
theorem dX1_copyFrom_55 : decode cX1_copyFrom 55 = .ok (.invokestatic 37, 3) := by decide +kernel
theorem dX1_copyFrom_58 : decode cX1_copyFrom 58 = .ok (.aload_n 1, 1) := by decide +kernel
theorem dX1_copyFrom_59 : decode cX1_copyFrom 59 = .ok (.getfield 21, 3) := by decide +kernel
theorem dX1_copyFrom_62 : decode cX1_copyFrom 62 = .ok (.iconst 0, 1) := by decide +kernel
theorem dX1_copyFrom_63 : decode cX1_copyFrom 63 = .ok (.aload_n 0, 1) := by decide +kernel
theorem dX1_copyFrom_64 : decode cX1_copyFrom 64 = .ok (.getfield 21, 3) := by decide +kernel
theorem dX1_copyFrom_67 : decode cX1_copyFrom 67 = .ok (.iconst 0, 1) := by decide +kernel
theorem dX1_copyFrom_68 : decode cX1_copyFrom 68 = .ok (.iconst 5, 1) := by decide +kernel
theorem dX1_copyFrom_69 : decode cX1_copyFrom 69 = .ok (.invokestatic 37, 3) := by decide +kernel
theorem dX1_copyFrom_72 : decode cX1_copyFrom 72 = .ok (.aload_n 1, 1) := by decide +kernel
theorem dX1_copyFrom_73 : decode cX1_copyFrom 73 = .ok (.getfield 24, 3) := by decide +kernel
theorem dX1_copyFrom_76 : decode cX1_copyFrom 76 = .ok (.iconst 0, 1) := by decide +kernel
theorem dX1_copyFrom_77 : decode cX1_copyFrom 77 = .ok (.aload_n 0, 1) := by decide +kernel
theorem dX1_copyFrom_78 : decode cX1_copyFrom 78 = .ok (.getfield 24, 3) := by decide +kernel
theorem dX1_copyFrom_81 : decode cX1_copyFrom 81 = .ok (.iconst 0, 1) := by decide +kernel
theorem dX1_copyFrom_82 : decode cX1_copyFrom 82 = .ok (.iconst 5, 1) := by decide +kernel
theorem dX1_copyFrom_83 : decode cX1_copyFrom 83 = .ok (.invokestatic 37, 3) := by decide +kernel
theorem dX1_copyFrom_86 : decode cX1_copyFrom 86 = .ok (.aload_n 1, 1) := by decide +kernel
theorem dX1_copyFrom_87 : decode cX1_copyFrom 87 = .ok (.getfield 27, 3) := by decide +kernel
theorem dX1_copyFrom_90 : decode cX1_copyFrom 90 = .ok (.iconst 0, 1) := by decide +kernel
theorem dX1_copyFrom_91 : decode cX1_copyFrom 91 = .ok (.aload_n 0, 1) := by decide +kernel
theorem dX1_copyFrom_92 : decode cX1_copyFrom 92 = .ok (.getfield 27, 3) := by decide +kernel
theorem dX1_copyFrom_95 : decode cX1_copyFrom 95 = .ok (.iconst 0, 1) := by decide +kernel
theorem dX1_copyFrom_96 : decode cX1_copyFrom 96 = .ok (.iconst 5, 1) := by decide +kernel
theorem dX1_copyFrom_97 : decode cX1_copyFrom 97 = .ok (.invokestatic 37, 3) := by decide +kernel
theorem dX1_copyFrom_100 : decode cX1_copyFrom 100 = .ok (.return_, 1) := by decide +kernel
theorem dX1_has_0 : decode cX1_has 0 = .ok (.iload_n 1, 1) := by decide +kernel
theorem dX1_has_1 : decode cX1_has 1 = .ok (.ifCond .lt 15, 3) := by decide +kernel
theorem dX1_has_4 : decode cX1_has 4 = .ok (.iload_n 1, 1) := by decide +kernel
theorem dX1_has_5 : decode cX1_has 5 = .ok (.aload_n 0, 1) := by decide +kernel
theorem dX1_has_6 : decode cX1_has 6 = .ok (.getfield 30, 3) := by decide +kernel
theorem dX1_has_9 : decode cX1_has 9 = .ok (.if_icmp .ge 7, 3) := by decide +kernel
theorem dX1_has_12 : decode cX1_has 12 = .ok (.iconst 1, 1) := by decide +kernel
theorem dX1_has_13 : decode cX1_has 13 = .ok (.goto 4, 3) := by decide +kernel
theorem dX1_has_16 : decode cX1_has 16 = .ok (.iconst 0, 1) := by decide +kernel
theorem dX1_has_17 : decode cX1_has 17 = .ok (.ireturn, 1) := by decide +kernel
theorem dX1_add_0 : decode cX1_add 0 = .ok (.aload_n 0, 1) := by decide +kernel
theorem dX1_add_1 : decode cX1_add 1 = .ok (.getfield 30, 3) := by decide +kernel
theorem dX1_add_4 : decode cX1_add 4 = .ok (.istore 4, 2) := by decide +kernel
theorem dX1_add_6 : decode cX1_add 6 = .ok (.iload 4, 2) := by decide +kernel
theorem dX1_add_8 : decode cX1_add 8 = .ok (.iconst 5, 1) := by decide +kernel
theorem dX1_add_9 : decode cX1_add 9 = .ok (.if_icmp .lt 6, 3) := by decide +kernel
theorem dX1_add_12 : decode cX1_add 12 = .ok (.bipush (-9), 2) := by decide +kernel
theorem dX1_add_14 : decode cX1_add 14 = .ok (.ireturn, 1) := by decide +kernel
theorem dX1_add_15 : decode cX1_add 15 = .ok (.aload_n 0, 1) := by decide +kernel
theorem dX1_add_16 : decode cX1_add 16 = .ok (.getfield 9, 3) := by decide +kernel
theorem dX1_add_19 : decode cX1_add 19 = .ok (.iload 4, 2) := by decide +kernel
theorem dX1_add_21 : decode cX1_add 21 = .ok (.iload_n 1, 1) := by decide +kernel
theorem dX1_add_22 : decode cX1_add 22 = .ok (.iastore, 1) := by decide +kernel
theorem dX1_add_23 : decode cX1_add 23 = .ok (.aload_n 0, 1) := by decide +kernel
theorem dX1_add_24 : decode cX1_add 24 = .ok (.getfield 15, 3) := by decide +kernel
theorem dX1_add_27 : decode cX1_add 27 = .ok (.iload 4, 2) := by decide +kernel
theorem dX1_add_29 : decode cX1_add 29 = .ok (.iload_n 2, 1) := by decide +kernel
theorem dX1_add_30 : decode cX1_add 30 = .ok (.iastore, 1) := by decide +kernel
theorem dX1_add_31 : decode cX1_add 31 = .ok (.aload_n 0, 1) := by decide +kernel
theorem dX1_add_32 : decode cX1_add 32 = .ok (.getfield 18, 3) := by decide +kernel
theorem dX1_add_35 : decode cX1_add 35 = .ok (.iload 4, 2) := by decide +kernel
theorem dX1_add_37 : decode cX1_add 37 = .ok (.iload_n 3, 1) := by decide +kernel
theorem dX1_add_38 : decode cX1_add 38 = .ok (.iastore, 1) := by decide +kernel
theorem dX1_add_39 : decode cX1_add 39 = .ok (.aload_n 0, 1) := by decide +kernel
theorem dX1_add_40 : decode cX1_add 40 = .ok (.getfield 21, 3) := by decide +kernel
theorem dX1_add_43 : decode cX1_add 43 = .ok (.iload 4, 2) := by decide +kernel
theorem dX1_add_45 : decode cX1_add 45 = .ok (.iload_n 1, 1) := by decide +kernel
theorem dX1_add_46 : decode cX1_add 46 = .ok (.iastore, 1) := by decide +kernel
theorem dX1_add_47 : decode cX1_add 47 = .ok (.aload_n 0, 1) := by decide +kernel
theorem dX1_add_48 : decode cX1_add 48 = .ok (.getfield 24, 3) := by decide +kernel
theorem dX1_add_51 : decode cX1_add 51 = .ok (.iload 4, 2) := by decide +kernel
theorem dX1_add_53 : decode cX1_add 53 = .ok (.iconst 0, 1) := by decide +kernel
theorem dX1_add_54 : decode cX1_add 54 = .ok (.iastore, 1) := by decide +kernel
theorem dX1_add_55 : decode cX1_add 55 = .ok (.aload_n 0, 1) := by decide +kernel
theorem dX1_add_56 : decode cX1_add 56 = .ok (.getfield 27, 3) := by decide +kernel
theorem dX1_add_59 : decode cX1_add 59 = .ok (.iload 4, 2) := by decide +kernel
theorem dX1_add_61 : decode cX1_add 61 = .ok (.iconst 0, 1) := by decide +kernel
theorem dX1_add_62 : decode cX1_add 62 = .ok (.iastore, 1) := by decide +kernel
theorem dX1_add_63 : decode cX1_add 63 = .ok (.aload_n 0, 1) := by decide +kernel
theorem dX1_add_64 : decode cX1_add 64 = .ok (.iload 4, 2) := by decide +kernel
theorem dX1_add_66 : decode cX1_add 66 = .ok (.iconst 1, 1) := by decide +kernel
theorem dX1_add_67 : decode cX1_add 67 = .ok (.iadd, 1) := by decide +kernel
theorem dX1_add_68 : decode cX1_add 68 = .ok (.putfield 30, 3) := by decide +kernel
theorem dX1_add_71 : decode cX1_add 71 = .ok (.iload 4, 2) := by decide +kernel
theorem dX1_add_73 : decode cX1_add 73 = .ok (.ireturn, 1) := by decide +kernel
theorem dX1_serves_0 : decode cX1_serves 0 = .ok (.iload_n 2, 1) := by decide +kernel
theorem dX1_serves_1 : decode cX1_serves 1 = .ok (.aload_n 0, 1) := by decide +kernel
theorem dX1_serves_2 : decode cX1_serves 2 = .ok (.getfield 9, 3) := by decide +kernel
theorem dX1_serves_5 : decode cX1_serves 5 = .ok (.iload_n 1, 1) := by decide +kernel
theorem dX1_serves_6 : decode cX1_serves 6 = .ok (.iaload, 1) := by decide +kernel
theorem dX1_serves_7 : decode cX1_serves 7 = .ok (.if_icmp .lt 17, 3) := by decide +kernel
theorem dX1_serves_10 : decode cX1_serves 10 = .ok (.iload_n 2, 1) := by decide +kernel
theorem dX1_serves_11 : decode cX1_serves 11 = .ok (.aload_n 0, 1) := by decide +kernel
theorem dX1_serves_12 : decode cX1_serves 12 = .ok (.getfield 15, 3) := by decide +kernel
theorem dX1_serves_15 : decode cX1_serves 15 = .ok (.iload_n 1, 1) := by decide +kernel
theorem dX1_serves_16 : decode cX1_serves 16 = .ok (.iaload, 1) := by decide +kernel
theorem dX1_serves_17 : decode cX1_serves 17 = .ok (.if_icmp .gt 7, 3) := by decide +kernel
theorem dX1_serves_20 : decode cX1_serves 20 = .ok (.iconst 1, 1) := by decide +kernel
theorem dX1_serves_21 : decode cX1_serves 21 = .ok (.goto 4, 3) := by decide +kernel
theorem dX1_serves_24 : decode cX1_serves 24 = .ok (.iconst 0, 1) := by decide +kernel
theorem dX1_serves_25 : decode cX1_serves 25 = .ok (.ireturn, 1) := by decide +kernel
theorem dX1_travelTowards_0 : decode cX1_travelTowards 0 = .ok (.aload_n 0, 1) := by decide +kernel
theorem dX1_travelTowards_1 : decode cX1_travelTowards 1 = .ok (.getfield 21, 3) := by decide +kernel
theorem dX1_travelTowards_4 : decode cX1_travelTowards 4 = .ok (.iload_n 1, 1) := by decide +kernel
theorem dX1_travelTowards_5 : decode cX1_travelTowards 5 = .ok (.dup2, 1) := by decide +kernel
theorem dX1_travelTowards_6 : decode cX1_travelTowards 6 = .ok (.iaload, 1) := by decide +kernel
theorem dX1_travelTowards_7 : decode cX1_travelTowards 7 = .ok (.iload_n 2, 1) := by decide +kernel
theorem dX1_travelTowards_8 : decode cX1_travelTowards 8 = .ok (.aload_n 0, 1) := by decide +kernel
theorem dX1_travelTowards_9 : decode cX1_travelTowards 9 = .ok (.getfield 21, 3) := by decide +kernel
theorem dX1_travelTowards_12 : decode cX1_travelTowards 12 = .ok (.iload_n 1, 1) := by decide +kernel
theorem dX1_travelTowards_13 : decode cX1_travelTowards 13 = .ok (.iaload, 1) := by decide +kernel
theorem dX1_travelTowards_14 : decode cX1_travelTowards 14 = .ok (.if_icmp .le 7, 3) := by decide +kernel
theorem dX1_travelTowards_17 : decode cX1_travelTowards 17 = .ok (.iconst 1, 1) := by decide +kernel
theorem dX1_travelTowards_18 : decode cX1_travelTowards 18 = .ok (.goto 4, 3) := by decide +kernel
theorem dX1_travelTowards_21 : decode cX1_travelTowards 21 = .ok (.iconst (-1), 1) := by decide +kernel
theorem dX1_travelTowards_22 : decode cX1_travelTowards 22 = .ok (.iadd, 1) := by decide +kernel
theorem dX1_travelTowards_23 : decode cX1_travelTowards 23 = .ok (.iastore, 1) := by decide +kernel
theorem dX1_travelTowards_24 : decode cX1_travelTowards 24 = .ok (.aload_n 0, 1) := by decide +kernel
theorem dX1_travelTowards_25 : decode cX1_travelTowards 25 = .ok (.getfield 27, 3) := by decide +kernel
theorem dX1_travelTowards_28 : decode cX1_travelTowards 28 = .ok (.iload_n 1, 1) := by decide +kernel
theorem dX1_travelTowards_29 : decode cX1_travelTowards 29 = .ok (.dup2, 1) := by decide +kernel
theorem dX1_travelTowards_30 : decode cX1_travelTowards 30 = .ok (.iaload, 1) := by decide +kernel
theorem dX1_travelTowards_31 : decode cX1_travelTowards 31 = .ok (.iconst 1, 1) := by decide +kernel
theorem dX1_travelTowards_32 : decode cX1_travelTowards 32 = .ok (.iadd, 1) := by decide +kernel
theorem dX1_travelTowards_33 : decode cX1_travelTowards 33 = .ok (.iastore, 1) := by decide +kernel
theorem dX1_travelTowards_34 : decode cX1_travelTowards 34 = .ok (.return_, 1) := by decide +kernel
theorem dX1_numberIn_0 : decode cX1_numberIn 0 = .ok (.iconst 0, 1) := by decide +kernel
theorem dX1_numberIn_1 : decode cX1_numberIn 1 = .ok (.istore_n 2, 1) := by decide +kernel
theorem dX1_numberIn_2 : decode cX1_numberIn 2 = .ok (.iconst 0, 1) := by decide +kernel
theorem dX1_numberIn_3 : decode cX1_numberIn 3 = .ok (.istore_n 3, 1) := by decide +kernel
theorem dX1_numberIn_4 : decode cX1_numberIn 4 = .ok (.iload_n 3, 1) := by decide +kernel
theorem dX1_numberIn_5 : decode cX1_numberIn 5 = .ok (.aload_n 0, 1) := by decide +kernel
theorem dX1_numberIn_6 : decode cX1_numberIn 6 = .ok (.getfield 30, 3) := by decide +kernel
theorem dX1_numberIn_9 : decode cX1_numberIn 9 = .ok (.if_icmp .ge 22, 3) := by decide +kernel
theorem dX1_numberIn_12 : decode cX1_numberIn 12 = .ok (.aload_n 0, 1) := by decide +kernel
theorem dX1_numberIn_13 : decode cX1_numberIn 13 = .ok (.getfield 24, 3) := by decide +kernel
theorem dX1_numberIn_16 : decode cX1_numberIn 16 = .ok (.iload_n 3, 1) := by decide +kernel
theorem dX1_numberIn_17 : decode cX1_numberIn 17 = .ok (.iaload, 1) := by decide +kernel
theorem dX1_numberIn_18 : decode cX1_numberIn 18 = .ok (.iload_n 1, 1) := by decide +kernel
theorem dX1_numberIn_19 : decode cX1_numberIn 19 = .ok (.if_icmp .ne 6, 3) := by decide +kernel
theorem dX1_numberIn_22 : decode cX1_numberIn 22 = .ok (.iinc 2 1, 3) := by decide +kernel
theorem dX1_numberIn_25 : decode cX1_numberIn 25 = .ok (.iinc 3 1, 3) := by decide +kernel
theorem dX1_numberIn_28 : decode cX1_numberIn 28 = .ok (.goto (-24), 3) := by decide +kernel
theorem dX1_numberIn_31 : decode cX1_numberIn 31 = .ok (.iload_n 2, 1) := by decide +kernel
theorem dX1_numberIn_32 : decode cX1_numberIn 32 = .ok (.ireturn, 1) := by decide +kernel
theorem dX1_travelledByAll_0 : decode cX1_travelledByAll 0 = .ok (.iconst 0, 1) := by decide +kernel
theorem dX1_travelledByAll_1 : decode cX1_travelledByAll 1 = .ok (.istore_n 1, 1) := by decide +kernel
theorem dX1_travelledByAll_2 : decode cX1_travelledByAll 2 = .ok (.iconst 0, 1) := by decide +kernel
theorem dX1_travelledByAll_3 : decode cX1_travelledByAll 3 = .ok (.istore_n 2, 1) := by decide +kernel
theorem dX1_travelledByAll_4 : decode cX1_travelledByAll 4 = .ok (.iload_n 2, 1) := by decide +kernel
theorem dX1_travelledByAll_5 : decode cX1_travelledByAll 5 = .ok (.aload_n 0, 1) := by decide +kernel
theorem dX1_travelledByAll_6 : decode cX1_travelledByAll 6 = .ok (.getfield 30, 3) := by decide +kernel
theorem dX1_travelledByAll_9 : decode cX1_travelledByAll 9 = .ok (.if_icmp .ge 18, 3) := by decide +kernel
theorem dX1_travelledByAll_12 : decode cX1_travelledByAll 12 = .ok (.iload_n 1, 1) := by decide +kernel
theorem dX1_travelledByAll_13 : decode cX1_travelledByAll 13 = .ok (.aload_n 0, 1) := by decide +kernel
theorem dX1_travelledByAll_14 : decode cX1_travelledByAll 14 = .ok (.getfield 27, 3) := by decide +kernel
theorem dX1_travelledByAll_17 : decode cX1_travelledByAll 17 = .ok (.iload_n 2, 1) := by decide +kernel
theorem dX1_travelledByAll_18 : decode cX1_travelledByAll 18 = .ok (.iaload, 1) := by decide +kernel
theorem dX1_travelledByAll_19 : decode cX1_travelledByAll 19 = .ok (.iadd, 1) := by decide +kernel
theorem dX1_travelledByAll_20 : decode cX1_travelledByAll 20 = .ok (.istore_n 1, 1) := by decide +kernel
theorem dX1_travelledByAll_21 : decode cX1_travelledByAll 21 = .ok (.iinc 2 1, 3) := by decide +kernel
theorem dX1_travelledByAll_24 : decode cX1_travelledByAll 24 = .ok (.goto (-20), 3) := by decide +kernel
theorem dX1_travelledByAll_27 : decode cX1_travelledByAll 27 = .ok (.iload_n 1, 1) := by decide +kernel
theorem dX1_travelledByAll_28 : decode cX1_travelledByAll 28 = .ok (.ireturn, 1) := by decide +kernel
set_option maxRecDepth 20000 in
theorem ggX2_init_X3_init : GoodIn wsX2_init wsX3_init := goodIn_r _ [10, 11, 2, 3, 12, 13, 14, 15, 16, 17, 18, 19, 20, 21, 22, 23, 24, 25, 26, 27, 28, 29, 30, 31, 32, 33, 34, 35, 36, 37, 38, 39, 40, 41, 45, 46, 47, 48, 49, 50, 51, 52, 53, 54, 55, 56, 57, 58, 59, 60, 61, 62, 63, 64, 65] (by decide +kernel) (by decide +kernel)
set_option maxRecDepth 20000 in
theorem gX2_init_X3_init : GoodIn wsX2_init (wsX3_init) := ggX2_init_X3_init
theorem dX2_init_0 : decode cX2_init 0 = .ok (.aload_n 0, 1) := by decide +kernel
theorem dX2_init_1 : decode cX2_init 1 = .ok (.invokespecial 3, 3) := by decide +kernel
theorem dX2_init_4 : decode cX2_init 4 = .ok (.aload_n 0, 1) := by decide +kernel
theorem dX2_init_5 : decode cX2_init 5 = .ok (.iconst 5, 1) := by decide +kernel
theorem dX2_init_6 : decode cX2_init 6 = .ok (.anewarray 9, 3) := by decide +kernel
theorem dX2_init_9 : decode cX2_init 9 = .ok (.putfield 11, 3) := by decide +kernel
theorem dX2_init_12 : decode cX2_init 12 = .ok (.iconst 0, 1) := by decide +kernel
theorem dX2_init_13 : decode cX2_init 13 = .ok (.istore_n 1, 1) := by decide +kernel
theorem dX2_init_14 : decode cX2_init 14 = .ok (.iload_n 1, 1) := by decide +kernel
theorem dX2_init_15 : decode cX2_init 15 = .ok (.iconst 5, 1) := by decide +kernel
theorem dX2_init_16 : decode cX2_init 16 = .ok (.if_icmp .ge 22, 3) := by decide +kernel
theorem dX2_init_19 : decode cX2_init 19 = .ok (.aload_n 0, 1) := by decide +kernel
theorem dX2_init_20 : decode cX2_init 20 = .ok (.getfield 11, 3) := by decide +kernel
theorem dX2_init_23 : decode cX2_init 23 = .ok (.iload_n 1, 1) := by decide +kernel
theorem dX2_init_24 : decode cX2_init 24 = .ok (.new 9, 3) := by decide +kernel
theorem dX2_init_27 : decode cX2_init 27 = .ok (.dup, 1) := by decide +kernel
theorem dX2_init_28 : decode cX2_init 28 = .ok (.invokespecial 17, 3) := by decide +kernel
theorem dX2_init_31 : decode cX2_init 31 = .ok (.aastore, 1) := by decide +kernel
theorem dX2_init_32 : decode cX2_init 32 = .ok (.iinc 1 1, 3) := by decide +kernel
theorem dX2_init_35 : decode cX2_init 35 = .ok (.goto (-21), 3) := by decide +kernel
theorem dX2_init_38 : decode cX2_init 38 = .ok (.return_, 1) := by decide +kernel
set_option maxRecDepth 20000 in
theorem ggX2_keep_X3_copyFrom : GoodIn wsX2_keep wsX3_copyFrom := goodIn_r _ [12, 13, 14, 15, 16, 17, 18, 19, 20, 21, 22, 23, 24, 25, 26, 27, 28, 29, 30, 31, 32, 33, 34, 35, 36, 37, 38, 39, 40, 41, 42, 43, 44, 45, 46, 47, 48, 49, 57, 58, 59, 60, 61, 62, 63, 64, 65, 66, 67, 68, 69, 70, 71, 72, 73, 74, 75, 76, 77] (by decide +kernel) (by decide +kernel)
set_option maxRecDepth 20000 in
theorem gX2_keep_X3_copyFrom : GoodIn wsX2_keep (wsV RX2 22 RX3 yX3_copyFrom wsX3_copyFrom) := goodIn_app (goodIn_of _ (by decide +kernel)) ggX2_keep_X3_copyFrom
set_option maxRecDepth 20000 in
theorem ggX2_keep_J9_floorMod_7cf53 : GoodIn wsX2_keep wsJ9_floorMod_7cf53 := goodIn_r _ [53] (by decide +kernel) (by decide +kernel)
set_option maxRecDepth 20000 in
theorem gX2_keep_J9_floorMod_7cf53 : GoodIn wsX2_keep (va_wsS RX2 26 yJ9_floorMod_7cf53 wsJ9_floorMod_7cf53) := goodIn_app (goodIn_of _ (by decide +kernel)) ggX2_keep_J9_floorMod_7cf53
theorem dX2_keep_0 : decode cX2_keep 0 = .ok (.aload_n 0, 1) := by decide +kernel
theorem dX2_keep_1 : decode cX2_keep 1 = .ok (.getfield 11, 3) := by decide +kernel
theorem dX2_keep_4 : decode cX2_keep 4 = .ok (.aload_n 0, 1) := by decide +kernel
theorem dX2_keep_5 : decode cX2_keep 5 = .ok (.getfield 18, 3) := by decide +kernel
theorem dX2_keep_8 : decode cX2_keep 8 = .ok (.aaload, 1) := by decide +kernel
theorem dX2_keep_9 : decode cX2_keep 9 = .ok (.astore_n 2, 1) := by decide +kernel
theorem dX2_keep_10 : decode cX2_keep 10 = .ok (.aload_n 2, 1) := by decide +kernel
theorem dX2_keep_11 : decode cX2_keep 11 = .ok (.ifnonnull 4, 3) := by decide +kernel
theorem dX2_keep_14 : decode cX2_keep 14 = .ok (.return_, 1) := by decide +kernel
theorem dX2_keep_15 : decode cX2_keep 15 = .ok (.aload_n 2, 1) := by decide +kernel
theorem dX2_keep_16 : decode cX2_keep 16 = .ok (.aload_n 1, 1) := by decide +kernel
theorem dX2_keep_17 : decode cX2_keep 17 = .ok (.invokevirtual 22, 3) := by decide +kernel
theorem dX2_keep_20 : decode cX2_keep 20 = .ok (.aload_n 0, 1) := by decide +kernel
theorem dX2_keep_21 : decode cX2_keep 21 = .ok (.aload_n 0, 1) := by decide +kernel
theorem dX2_keep_22 : decode cX2_keep 22 = .ok (.getfield 18, 3) := by decide +kernel
theorem dX2_keep_25 : decode cX2_keep 25 = .ok (.iconst 1, 1) := by decide +kernel
theorem dX2_keep_26 : decode cX2_keep 26 = .ok (.iadd, 1) := by decide +kernel
theorem dX2_keep_27 : decode cX2_keep 27 = .ok (.iconst 5, 1) := by decide +kernel
theorem dX2_keep_28 : decode cX2_keep 28 = .ok (.invokestatic 26, 3) := by decide +kernel
theorem dX2_keep_31 : decode cX2_keep 31 = .ok (.putfield 18, 3) := by decide +kernel
theorem dX2_keep_34 : decode cX2_keep 34 = .ok (.aload_n 0, 1) := by decide +kernel
theorem dX2_keep_35 : decode cX2_keep 35 = .ok (.aload_n 0, 1) := by decide +kernel
theorem dX2_keep_36 : decode cX2_keep 36 = .ok (.getfield 32, 3) := by decide +kernel
theorem dX2_keep_39 : decode cX2_keep 39 = .ok (.iconst 1, 1) := by decide +kernel
theorem dX2_keep_40 : decode cX2_keep 40 = .ok (.iadd, 1) := by decide +kernel
theorem dX2_keep_41 : decode cX2_keep 41 = .ok (.iconst 5, 1) := by decide +kernel
theorem dX2_keep_42 : decode cX2_keep 42 = .ok (.invokestatic 35, 3) := by decide +kernel
theorem dX2_keep_45 : decode cX2_keep 45 = .ok (.putfield 32, 3) := by decide +kernel
theorem dX2_keep_48 : decode cX2_keep 48 = .ok (.return_, 1) := by decide +kernel
set_option maxRecDepth 20000 in
theorem ggX3_init_X1_init : GoodIn wsX3_init wsX1_init := goodIn_r _ [15, 16, 2, 3, 4, 17, 18, 19, 20, 21, 22, 38, 39, 40, 41, 42, 43, 44, 45] (by decide +kernel) (by decide +kernel)
set_option maxRecDepth 20000 in
theorem gX3_init_X1_init_n17 : GoodIn wsX3_init (wsX1_init) := ggX3_init_X1_init
set_option maxRecDepth 20000 in
theorem ggX3_init_X0_init : GoodIn wsX3_init wsX0_init := goodIn_r _ [24, 25, 2, 3, 4, 26, 27, 28, 29, 30, 31, 32, 33, 46, 47, 48, 49, 50, 51, 52, 53, 54] (by decide +kernel) (by decide +kernel)
set_option maxRecDepth 20000 in
theorem gX3_init_X0_init_n24 : GoodIn wsX3_init (wsX0_init) := ggX3_init_X0_init
theorem dX3_init_0 : decode cX3_init 0 = .ok (.aload_n 0, 1) := by decide +kernel
theorem dX3_init_1 : decode cX3_init 1 = .ok (.invokespecial 3, 3) := by decide +kernel
theorem dX3_init_4 : decode cX3_init 4 = .ok (.aload_n 0, 1) := by decide +kernel
theorem dX3_init_5 : decode cX3_init 5 = .ok (.bipush 24, 2) := by decide +kernel
theorem dX3_init_7 : decode cX3_init 7 = .ok (.newarray .int, 2) := by decide +kernel
theorem dX3_init_9 : decode cX3_init 9 = .ok (.putfield 9, 3) := by decide +kernel
theorem dX3_init_12 : decode cX3_init 12 = .ok (.aload_n 0, 1) := by decide +kernel
theorem dX3_init_13 : decode cX3_init 13 = .ok (.new 15, 3) := by decide +kernel
theorem dX3_init_16 : decode cX3_init 16 = .ok (.dup, 1) := by decide +kernel
theorem dX3_init_17 : decode cX3_init 17 = .ok (.invokespecial 17, 3) := by decide +kernel
theorem dX3_init_20 : decode cX3_init 20 = .ok (.putfield 18, 3) := by decide +kernel
theorem dX3_init_23 : decode cX3_init 23 = .ok (.aload_n 0, 1) := by decide +kernel
theorem dX3_init_24 : decode cX3_init 24 = .ok (.new 22, 3) := by decide +kernel
theorem dX3_init_27 : decode cX3_init 27 = .ok (.dup, 1) := by decide +kernel
theorem dX3_init_28 : decode cX3_init 28 = .ok (.invokespecial 24, 3) := by decide +kernel
theorem dX3_init_31 : decode cX3_init 31 = .ok (.putfield 25, 3) := by decide +kernel
theorem dX3_init_34 : decode cX3_init 34 = .ok (.iconst 0, 1) := by decide +kernel
theorem dX3_init_35 : decode cX3_init 35 = .ok (.istore_n 1, 1) := by decide +kernel
theorem dX3_init_36 : decode cX3_init 36 = .ok (.iload_n 1, 1) := by decide +kernel
theorem dX3_init_37 : decode cX3_init 37 = .ok (.bipush 24, 2) := by decide +kernel
theorem dX3_init_39 : decode cX3_init 39 = .ok (.if_icmp .ge 16, 3) := by decide +kernel
theorem dX3_init_42 : decode cX3_init 42 = .ok (.aload_n 0, 1) := by decide +kernel
theorem dX3_init_43 : decode cX3_init 43 = .ok (.getfield 9, 3) := by decide +kernel
theorem dX3_init_46 : decode cX3_init 46 = .ok (.iload_n 1, 1) := by decide +kernel
theorem dX3_init_47 : decode cX3_init 47 = .ok (.iconst 5, 1) := by decide +kernel
theorem dX3_init_48 : decode cX3_init 48 = .ok (.iastore, 1) := by decide +kernel
theorem dX3_init_49 : decode cX3_init 49 = .ok (.iinc 1 1, 3) := by decide +kernel
theorem dX3_init_52 : decode cX3_init 52 = .ok (.goto (-16), 3) := by decide +kernel
theorem dX3_init_55 : decode cX3_init 55 = .ok (.return_, 1) := by decide +kernel
set_option maxRecDepth 20000 in
theorem ggX3_copyFrom_X1_copyFrom : GoodIn wsX3_copyFrom wsX1_copyFrom := goodIn_r _ [13, 14, 15, 16, 17, 4, 5, 6, 18, 19, 20, 21, 22, 42, 43, 44, 45, 46, 47, 48, 49] (by decide +kernel) (by decide +kernel)
set_option maxRecDepth 20000 in
theorem gX3_copyFrom_X1_copyFrom : GoodIn wsX3_copyFrom (wsV RX3 39 RX1 yX1_copyFrom wsX1_copyFrom) := goodIn_app (goodIn_of _ (by decide +kernel)) ggX3_copyFrom_X1_copyFrom
set_option maxRecDepth 20000 in
theorem ggX3_copyFrom_X0_copyFrom : GoodIn wsX3_copyFrom wsX0_copyFrom := goodIn_r _ [27, 28, 29, 30, 4, 5, 6, 31, 32, 33, 34, 35, 36, 37, 50, 51, 52, 53, 54, 55, 56, 57, 58] (by decide +kernel) (by decide +kernel)
set_option maxRecDepth 20000 in
theorem gX3_copyFrom_X0_copyFrom : GoodIn wsX3_copyFrom (wsV RX3 43 RX0 yX0_copyFrom wsX0_copyFrom) := goodIn_app (goodIn_of _ (by decide +kernel)) ggX3_copyFrom_X0_copyFrom
theorem dX3_copyFrom_0 : decode cX3_copyFrom 0 = .ok (.aload_n 0, 1) := by decide +kernel
theorem dX3_copyFrom_1 : decode cX3_copyFrom 1 = .ok (.aload_n 1, 1) := by decide +kernel
theorem dX3_copyFrom_2 : decode cX3_copyFrom 2 = .ok (.getfield 29, 3) := by decide +kernel
theorem dX3_copyFrom_5 : decode cX3_copyFrom 5 = .ok (.putfield 29, 3) := by decide +kernel
theorem dX3_copyFrom_8 : decode cX3_copyFrom 8 = .ok (.aload_n 1, 1) := by decide +kernel
theorem dX3_copyFrom_9 : decode cX3_copyFrom 9 = .ok (.getfield 9, 3) := by decide +kernel
theorem dX3_copyFrom_12 : decode cX3_copyFrom 12 = .ok (.iconst 0, 1) := by decide +kernel
theorem dX3_copyFrom_13 : decode cX3_copyFrom 13 = .ok (.aload_n 0, 1) := by decide +kernel
theorem dX3_copyFrom_14 : decode cX3_copyFrom 14 = .ok (.getfield 9, 3) := by decide +kernel
theorem dX3_copyFrom_17 : decode cX3_copyFrom 17 = .ok (.iconst 0, 1) := by decide +kernel
theorem dX3_copyFrom_18 : decode cX3_copyFrom 18 = .ok (.bipush 24, 2) := by decide +kernel
theorem dX3_copyFrom_20 : decode cX3_copyFrom 20 = .ok (.invokestatic 33, 3) := by decide +kernel
theorem dX3_copyFrom_23 : decode cX3_copyFrom 23 = .ok (.aload_n 0, 1) := by decide +kernel
theorem dX3_copyFrom_24 : decode cX3_copyFrom 24 = .ok (.getfield 18, 3) := by decide +kernel
theorem dX3_copyFrom_27 : decode cX3_copyFrom 27 = .ok (.aload_n 1, 1) := by decide +kernel
theorem dX3_copyFrom_28 : decode cX3_copyFrom 28 = .ok (.getfield 18, 3) := by decide +kernel
theorem dX3_copyFrom_31 : decode cX3_copyFrom 31 = .ok (.invokevirtual 39, 3) := by decide +kernel
theorem dX3_copyFrom_34 : decode cX3_copyFrom 34 = .ok (.aload_n 0, 1) := by decide +kernel
theorem dX3_copyFrom_35 : decode cX3_copyFrom 35 = .ok (.getfield 25, 3) := by decide +kernel
theorem dX3_copyFrom_38 : decode cX3_copyFrom 38 = .ok (.aload_n 1, 1) := by decide +kernel
theorem dX3_copyFrom_39 : decode cX3_copyFrom 39 = .ok (.getfield 25, 3) := by decide +kernel
theorem dX3_copyFrom_42 : decode cX3_copyFrom 42 = .ok (.invokevirtual 43, 3) := by decide +kernel
theorem dX3_copyFrom_45 : decode cX3_copyFrom 45 = .ok (.return_, 1) := by decide +kernel
theorem dX3_hour_0 : decode cX3_hour 0 = .ok (.aload_n 0, 1) := by decide +kernel
theorem dX3_hour_1 : decode cX3_hour 1 = .ok (.getfield 29, 3) := by decide +kernel
theorem dX3_hour_4 : decode cX3_hour 4 = .ok (.bipush 60, 2) := by decide +kernel
theorem dX3_hour_6 : decode cX3_hour 6 = .ok (.idiv, 1) := by decide +kernel
theorem dX3_hour_7 : decode cX3_hour 7 = .ok (.bipush 24, 2) := by decide +kernel
theorem dX3_hour_9 : decode cX3_hour 9 = .ok (.irem, 1) := by decide +kernel
theorem dX3_hour_10 : decode cX3_hour 10 = .ok (.ireturn, 1) := by decide +kernel
set_option maxRecDepth 20000 in
theorem ggX3_isAwake_X3_hour : GoodIn wsX3_isAwake wsX3_hour := goodIn_r _ [6, 7, 8, 9, 10, 11] (by decide +kernel) (by decide +kernel)
set_option maxRecDepth 20000 in
theorem gX3_isAwake_X3_hour : GoodIn wsX3_isAwake (wsV RX3 46 RX3 yX3_hour wsX3_hour) := goodIn_app (goodIn_of _ (by decide +kernel)) ggX3_isAwake_X3_hour
theorem dX3_isAwake_0 : decode cX3_isAwake 0 = .ok (.iload_n 1, 1) := by decide +kernel
theorem dX3_isAwake_1 : decode cX3_isAwake 1 = .ok (.aload_n 0, 1) := by decide +kernel
theorem dX3_isAwake_2 : decode cX3_isAwake 2 = .ok (.getfield 9, 3) := by decide +kernel
theorem dX3_isAwake_5 : decode cX3_isAwake 5 = .ok (.aload_n 0, 1) := by decide +kernel
theorem dX3_isAwake_6 : decode cX3_isAwake 6 = .ok (.invokevirtual 46, 3) := by decide +kernel
theorem dX3_isAwake_9 : decode cX3_isAwake 9 = .ok (.iaload, 1) := by decide +kernel
theorem dX3_isAwake_10 : decode cX3_isAwake 10 = .ok (.if_icmp .ge 7, 3) := by decide +kernel
theorem dX3_isAwake_13 : decode cX3_isAwake 13 = .ok (.iconst 1, 1) := by decide +kernel
theorem dX3_isAwake_14 : decode cX3_isAwake 14 = .ok (.goto 4, 3) := by decide +kernel
theorem dX3_isAwake_17 : decode cX3_isAwake 17 = .ok (.iconst 0, 1) := by decide +kernel
theorem dX3_isAwake_18 : decode cX3_isAwake 18 = .ok (.ireturn, 1) := by decide +kernel
set_option maxRecDepth 20000 in
theorem ggX3_canBeGiven_X3_isAwake : GoodIn wsX3_canBeGiven wsX3_isAwake := goodIn_r _ [7, 8, 9, 10, 11, 6, 12, 13, 21, 22, 23, 24] (by decide +kernel) (by decide +kernel)
set_option maxRecDepth 20000 in
theorem gX3_canBeGiven_X3_isAwake : GoodIn wsX3_canBeGiven (wsV RX3 53 RX3 yX3_isAwake wsX3_isAwake) := goodIn_app (goodIn_of _ (by decide +kernel)) ggX3_canBeGiven_X3_isAwake
set_option maxRecDepth 20000 in
theorem ggX3_canBeGiven_X1_serves : GoodIn wsX3_canBeGiven wsX1_serves := goodIn_r _ [18, 19, 20, 25, 26, 27, 28, 29, 30, 31, 32] (by decide +kernel) (by decide +kernel)
set_option maxRecDepth 20000 in
theorem gX3_canBeGiven_X1_serves : GoodIn wsX3_canBeGiven (wsV RX3 57 RX1 yX1_serves wsX1_serves) := goodIn_app (goodIn_of _ (by decide +kernel)) ggX3_canBeGiven_X1_serves
theorem dX3_canBeGiven_0 : decode cX3_canBeGiven 0 = .ok (.aload_n 0, 1) := by decide +kernel
theorem dX3_canBeGiven_1 : decode cX3_canBeGiven 1 = .ok (.getfield 18, 3) := by decide +kernel
theorem dX3_canBeGiven_4 : decode cX3_canBeGiven 4 = .ok (.getfield 50, 3) := by decide +kernel
theorem dX3_canBeGiven_7 : decode cX3_canBeGiven 7 = .ok (.iload_n 1, 1) := by decide +kernel
theorem dX3_canBeGiven_8 : decode cX3_canBeGiven 8 = .ok (.iaload, 1) := by decide +kernel
theorem dX3_canBeGiven_9 : decode cX3_canBeGiven 9 = .ok (.ifCond .ne 39, 3) := by decide +kernel
theorem dX3_canBeGiven_12 : decode cX3_canBeGiven 12 = .ok (.aload_n 0, 1) := by decide +kernel
theorem dX3_canBeGiven_13 : decode cX3_canBeGiven 13 = .ok (.iload_n 1, 1) := by decide +kernel
theorem dX3_canBeGiven_14 : decode cX3_canBeGiven 14 = .ok (.invokevirtual 53, 3) := by decide +kernel
theorem dX3_canBeGiven_17 : decode cX3_canBeGiven 17 = .ok (.ifCond .eq 31, 3) := by decide +kernel
theorem dX3_canBeGiven_20 : decode cX3_canBeGiven 20 = .ok (.aload_n 0, 1) := by decide +kernel
theorem dX3_canBeGiven_21 : decode cX3_canBeGiven 21 = .ok (.getfield 18, 3) := by decide +kernel
theorem dX3_canBeGiven_24 : decode cX3_canBeGiven 24 = .ok (.iload_n 1, 1) := by decide +kernel
theorem dX3_canBeGiven_25 : decode cX3_canBeGiven 25 = .ok (.iload_n 2, 1) := by decide +kernel
theorem dX3_canBeGiven_26 : decode cX3_canBeGiven 26 = .ok (.invokevirtual 57, 3) := by decide +kernel
theorem dX3_canBeGiven_29 : decode cX3_canBeGiven 29 = .ok (.ifCond .eq 19, 3) := by decide +kernel
theorem dX3_canBeGiven_32 : decode cX3_canBeGiven 32 = .ok (.aload_n 0, 1) := by decide +kernel
theorem dX3_canBeGiven_33 : decode cX3_canBeGiven 33 = .ok (.getfield 18, 3) := by decide +kernel
theorem dX3_canBeGiven_36 : decode cX3_canBeGiven 36 = .ok (.iload_n 1, 1) := by decide +kernel
theorem dX3_canBeGiven_37 : decode cX3_canBeGiven 37 = .ok (.iload_n 3, 1) := by decide +kernel
theorem dX3_canBeGiven_38 : decode cX3_canBeGiven 38 = .ok (.invokevirtual 57, 3) := by decide +kernel
theorem dX3_canBeGiven_41 : decode cX3_canBeGiven 41 = .ok (.ifCond .eq 7, 3) := by decide +kernel
theorem dX3_canBeGiven_44 : decode cX3_canBeGiven 44 = .ok (.iconst 1, 1) := by decide +kernel
theorem dX3_canBeGiven_45 : decode cX3_canBeGiven 45 = .ok (.goto 4, 3) := by decide +kernel
theorem dX3_canBeGiven_48 : decode cX3_canBeGiven 48 = .ok (.iconst 0, 1) := by decide +kernel
theorem dX3_canBeGiven_49 : decode cX3_canBeGiven 49 = .ok (.ireturn, 1) := by decide +kernel
set_option maxRecDepth 20000 in
theorem ggX3_costOf_X0_stopsOf : GoodIn wsX3_costOf wsX0_stopsOf := goodIn_r _ [12, 13, 14, 15, 16, 17, 18, 11, 19, 20, 21, 22, 23, 24, 25, 53, 54, 55, 56, 57, 58, 59, 60, 61] (by decide +kernel) (by decide +kernel)
set_option maxRecDepth 20000 in
theorem gX3_costOf_X0_stopsOf : GoodIn wsX3_costOf (wsV RX3 70 RX0 yX0_stopsOf wsX0_stopsOf) := goodIn_app (goodIn_of _ (by decide +kernel)) ggX3_costOf_X0_stopsOf
set_option maxRecDepth 20000 in
theorem ggX3_costOf_J6_bitCount_0f7a4 : GoodIn wsX3_costOf wsJ6_bitCount_0f7a4 := goodIn_r _ [29, 30, 31, 32] (by decide +kernel) (by decide +kernel)
set_option maxRecDepth 20000 in
theorem gX3_costOf_J6_bitCount_0f7a4 : GoodIn wsX3_costOf (va_wsS RX3 73 yJ6_bitCount_0f7a4 wsJ6_bitCount_0f7a4) := goodIn_app (goodIn_of _ (by decide +kernel)) ggX3_costOf_J6_bitCount_0f7a4
set_option maxRecDepth 20000 in
theorem ggX3_costOf_X0_numberWith : GoodIn wsX3_costOf wsX0_numberWith := goodIn_r _ [36, 37, 38, 39, 11, 40, 13, 20, 21, 53, 54, 55, 56, 57, 58, 59, 60, 61] (by decide +kernel) (by decide +kernel)
set_option maxRecDepth 20000 in
theorem gX3_costOf_X0_numberWith : GoodIn wsX3_costOf (wsV RX3 78 RX0 yX0_numberWith wsX0_numberWith) := goodIn_app (goodIn_of _ (by decide +kernel)) ggX3_costOf_X0_numberWith
theorem dX3_costOf_0 : decode cX3_costOf 0 = .ok (.aload_n 0, 1) := by decide +kernel
theorem dX3_costOf_1 : decode cX3_costOf 1 = .ok (.getfield 18, 3) := by decide +kernel
theorem dX3_costOf_4 : decode cX3_costOf 4 = .ok (.getfield 61, 3) := by decide +kernel
theorem dX3_costOf_7 : decode cX3_costOf 7 = .ok (.iload_n 1, 1) := by decide +kernel
theorem dX3_costOf_8 : decode cX3_costOf 8 = .ok (.iaload, 1) := by decide +kernel
theorem dX3_costOf_9 : decode cX3_costOf 9 = .ok (.iload_n 2, 1) := by decide +kernel
theorem dX3_costOf_10 : decode cX3_costOf 10 = .ok (.isub, 1) := by decide +kernel
theorem dX3_costOf_11 : decode cX3_costOf 11 = .ok (.invokestatic 64, 3) := by decide +kernel
theorem dX3_costOf_14 : decode cX3_costOf 14 = .ok (.istore 4, 2) := by decide +kernel
theorem dX3_costOf_16 : decode cX3_costOf 16 = .ok (.aload_n 0, 1) := by decide +kernel
theorem dX3_costOf_17 : decode cX3_costOf 17 = .ok (.getfield 25, 3) := by decide +kernel
theorem dX3_costOf_20 : decode cX3_costOf 20 = .ok (.iload_n 1, 1) := by decide +kernel
theorem dX3_costOf_21 : decode cX3_costOf 21 = .ok (.invokevirtual 70, 3) := by decide +kernel
theorem dX3_costOf_24 : decode cX3_costOf 24 = .ok (.iconst 1, 1) := by decide +kernel
theorem dX3_costOf_25 : decode cX3_costOf 25 = .ok (.iload_n 2, 1) := by decide +kernel
theorem dX3_costOf_26 : decode cX3_costOf 26 = .ok (.ishl, 1) := by decide +kernel
theorem dX3_costOf_27 : decode cX3_costOf 27 = .ok (.ior, 1) := by decide +kernel
theorem dX3_costOf_28 : decode cX3_costOf 28 = .ok (.iconst 1, 1) := by decide +kernel
theorem dX3_costOf_29 : decode cX3_costOf 29 = .ok (.iload_n 3, 1) := by decide +kernel
theorem dX3_costOf_30 : decode cX3_costOf 30 = .ok (.ishl, 1) := by decide +kernel
theorem dX3_costOf_31 : decode cX3_costOf 31 = .ok (.ior, 1) := by decide +kernel
theorem dX3_costOf_32 : decode cX3_costOf 32 = .ok (.invokestatic 73, 3) := by decide +kernel
theorem dX3_costOf_35 : decode cX3_costOf 35 = .ok (.istore 5, 2) := by decide +kernel
theorem dX3_costOf_37 : decode cX3_costOf 37 = .ok (.iload 4, 2) := by decide +kernel
theorem dX3_costOf_39 : decode cX3_costOf 39 = .ok (.iconst 2, 1) := by decide +kernel
theorem dX3_costOf_40 : decode cX3_costOf 40 = .ok (.iload 5, 2) := by decide +kernel
theorem dX3_costOf_42 : decode cX3_costOf 42 = .ok (.imul, 1) := by decide +kernel
theorem dX3_costOf_43 : decode cX3_costOf 43 = .ok (.iadd, 1) := by decide +kernel
theorem dX3_costOf_44 : decode cX3_costOf 44 = .ok (.aload_n 0, 1) := by decide +kernel
theorem dX3_costOf_45 : decode cX3_costOf 45 = .ok (.getfield 25, 3) := by decide +kernel
theorem dX3_costOf_48 : decode cX3_costOf 48 = .ok (.iload_n 1, 1) := by decide +kernel
theorem dX3_costOf_49 : decode cX3_costOf 49 = .ok (.invokevirtual 78, 3) := by decide +kernel
theorem dX3_costOf_52 : decode cX3_costOf 52 = .ok (.iadd, 1) := by decide +kernel
theorem dX3_costOf_53 : decode cX3_costOf 53 = .ok (.ireturn, 1) := by decide +kernel
set_option maxRecDepth 20000 in
theorem ggX3_bestCar_X3_canBeGiven : GoodIn wsX3_bestCar wsX3_canBeGiven := goodIn_r _ [7, 1, 8, 9, 10, 11, 6, 12, 13, 14, 15, 16, 17, 18, 19, 20, 21, 22, 23, 24, 25, 69, 70, 71, 72, 73, 74, 75, 76, 77, 78, 79, 80] (by decide +kernel) (by decide +kernel)
set_option maxRecDepth 20000 in
theorem gX3_bestCar_X3_canBeGiven : GoodIn wsX3_bestCar (wsV RX3 84 RX3 yX3_canBeGiven wsX3_canBeGiven) := goodIn_app (goodIn_of _ (by decide +kernel)) ggX3_bestCar_X3_canBeGiven
set_option maxRecDepth 20000 in
theorem ggX3_bestCar_X3_costOf : GoodIn wsX3_bestCar wsX3_costOf := goodIn_r _ [29, 1, 30, 31, 32, 33, 34, 35, 36, 37, 38, 39, 40, 41, 42, 43, 44, 45, 46, 47, 48, 49, 50, 51, 52, 53, 54, 55, 56, 57, 58, 59, 60, 61, 62, 63, 64, 65, 66, 67, 68, 69, 70, 71, 72, 73, 74, 75, 76, 77, 78, 79, 80, 81, 82, 83, 84, 85, 86, 87, 88, 89] (by decide +kernel) (by decide +kernel)
set_option maxRecDepth 20000 in
theorem gX3_bestCar_X3_costOf : GoodIn wsX3_bestCar (wsV RX3 88 RX3 yX3_costOf wsX3_costOf) := goodIn_app (goodIn_of _ (by decide +kernel)) ggX3_bestCar_X3_costOf
theorem dX3_bestCar_0 : decode cX3_bestCar 0 = .ok (.bipush (-9), 2) := by decide +kernel
theorem dX3_bestCar_2 : decode cX3_bestCar 2 = .ok (.istore_n 3, 1) := by decide +kernel
theorem dX3_bestCar_3 : decode cX3_bestCar 3 = .ok (.iconst 0, 1) := by decide +kernel
theorem dX3_bestCar_4 : decode cX3_bestCar 4 = .ok (.istore 4, 2) := by decide +kernel
theorem dX3_bestCar_6 : decode cX3_bestCar 6 = .ok (.iconst 0, 1) := by decide +kernel
theorem dX3_bestCar_7 : decode cX3_bestCar 7 = .ok (.istore 5, 2) := by decide +kernel
theorem dX3_bestCar_9 : decode cX3_bestCar 9 = .ok (.iload 5, 2) := by decide +kernel
theorem dX3_bestCar_11 : decode cX3_bestCar 11 = .ok (.aload_n 0, 1) := by decide +kernel
theorem dX3_bestCar_12 : decode cX3_bestCar 12 = .ok (.getfield 18, 3) := by decide +kernel
theorem dX3_bestCar_15 : decode cX3_bestCar 15 = .ok (.getfield 81, 3) := by decide +kernel
theorem dX3_bestCar_18 : decode cX3_bestCar 18 = .ok (.if_icmp .ge 53, 3) := by decide +kernel
theorem dX3_bestCar_21 : decode cX3_bestCar 21 = .ok (.aload_n 0, 1) := by decide +kernel
theorem dX3_bestCar_22 : decode cX3_bestCar 22 = .ok (.iload 5, 2) := by decide +kernel
theorem dX3_bestCar_24 : decode cX3_bestCar 24 = .ok (.iload_n 1, 1) := by decide +kernel
theorem dX3_bestCar_25 : decode cX3_bestCar 25 = .ok (.iload_n 2, 1) := by decide +kernel
theorem dX3_bestCar_26 : decode cX3_bestCar 26 = .ok (.invokevirtual 84, 3) := by decide +kernel
theorem dX3_bestCar_29 : decode cX3_bestCar 29 = .ok (.ifCond .ne 6, 3) := by decide +kernel
theorem dX3_bestCar_32 : decode cX3_bestCar 32 = .ok (.goto 33, 3) := by decide +kernel
theorem dX3_bestCar_35 : decode cX3_bestCar 35 = .ok (.aload_n 0, 1) := by decide +kernel
theorem dX3_bestCar_36 : decode cX3_bestCar 36 = .ok (.iload 5, 2) := by decide +kernel
theorem dX3_bestCar_38 : decode cX3_bestCar 38 = .ok (.iload_n 1, 1) := by decide +kernel
theorem dX3_bestCar_39 : decode cX3_bestCar 39 = .ok (.iload_n 2, 1) := by decide +kernel
theorem dX3_bestCar_40 : decode cX3_bestCar 40 = .ok (.invokevirtual 88, 3) := by decide +kernel
theorem dX3_bestCar_43 : decode cX3_bestCar 43 = .ok (.istore 6, 2) := by decide +kernel
theorem dX3_bestCar_45 : decode cX3_bestCar 45 = .ok (.iload_n 3, 1) := by decide +kernel
theorem dX3_bestCar_46 : decode cX3_bestCar 46 = .ok (.bipush (-9), 2) := by decide +kernel
theorem dX3_bestCar_48 : decode cX3_bestCar 48 = .ok (.if_icmp .eq 10, 3) := by decide +kernel
theorem dX3_bestCar_51 : decode cX3_bestCar 51 = .ok (.iload 6, 2) := by decide +kernel
theorem dX3_bestCar_53 : decode cX3_bestCar 53 = .ok (.iload 4, 2) := by decide +kernel
theorem dX3_bestCar_55 : decode cX3_bestCar 55 = .ok (.if_icmp .ge 10, 3) := by decide +kernel
theorem dX3_bestCar_58 : decode cX3_bestCar 58 = .ok (.iload 5, 2) := by decide +kernel
theorem dX3_bestCar_60 : decode cX3_bestCar 60 = .ok (.istore_n 3, 1) := by decide +kernel
theorem dX3_bestCar_61 : decode cX3_bestCar 61 = .ok (.iload 6, 2) := by decide +kernel
theorem dX3_bestCar_63 : decode cX3_bestCar 63 = .ok (.istore 4, 2) := by decide +kernel
theorem dX3_bestCar_65 : decode cX3_bestCar 65 = .ok (.iinc 5 1, 3) := by decide +kernel
theorem dX3_bestCar_68 : decode cX3_bestCar 68 = .ok (.goto (-59), 3) := by decide +kernel
theorem dX3_bestCar_71 : decode cX3_bestCar 71 = .ok (.iload_n 3, 1) := by decide +kernel
theorem dX3_bestCar_72 : decode cX3_bestCar 72 = .ok (.ireturn, 1) := by decide +kernel
set_option maxRecDepth 20000 in
theorem ggX3_oneTick_X3_bestCar : GoodIn wsX3_oneTick wsX3_bestCar := goodIn_r _ [14, 6, 7, 15, 16, 17, 13, 18, 8, 19, 20, 21, 22, 23, 24, 25, 26, 27, 9, 28, 29, 30, 31, 32, 33, 34, 35, 36, 37, 38, 39, 40, 41, 42, 43, 1, 44, 45, 46, 47, 48, 49, 50, 51, 52, 53, 54, 55, 56, 57, 58, 59, 60, 61, 62, 63, 64, 65, 66, 67, 68, 69, 70, 71, 72, 73, 74, 75, 76, 116, 117, 118, 119, 129, 130, 131, 132, 133, 134, 135, 136, 120, 121, 122, 123, 124, 125, 126, 127, 128] (by decide +kernel) (by decide +kernel)
set_option maxRecDepth 20000 in
theorem gX3_oneTick_X3_bestCar : GoodIn wsX3_oneTick (wsV RX3 100 RX3 yX3_bestCar wsX3_bestCar) := goodIn_app (goodIn_of _ (by decide +kernel)) ggX3_oneTick_X3_bestCar
set_option maxRecDepth 20000 in
theorem ggX3_oneTick_X0_give : GoodIn wsX3_oneTick wsX0_give := goodIn_r _ [80, 56, 57, 81, 82, 83, 84, 47, 85, 49, 120, 121, 122, 123, 124, 125, 126, 127, 128] (by decide +kernel) (by decide +kernel)
set_option maxRecDepth 20000 in
theorem gX3_oneTick_X0_give : GoodIn wsX3_oneTick (wsV RX3 104 RX0 yX0_give wsX0_give) := goodIn_app (goodIn_of _ (by decide +kernel)) ggX3_oneTick_X0_give
set_option maxRecDepth 20000 in
theorem ggX3_oneTick_X3_stopOrTravel : GoodIn wsX3_oneTick wsX3_stopOrTravel := goodIn_r _ [89, 6, 39, 1, 9, 90, 91, 92, 93, 94, 47, 95, 49, 51, 56, 96, 58, 59, 60, 61, 57, 97, 98, 99, 100, 50, 101, 73, 74, 75, 76, 52, 53, 54, 55, 102, 103, 104, 105, 106, 107, 108, 109, 41, 42, 43, 110, 111, 112, 31, 113, 114, 115, 116, 117, 118, 119, 129, 130, 131, 132, 133, 134, 135, 136, 120, 121, 122, 123, 124, 125, 126, 127, 128] (by decide +kernel) (by decide +kernel)
set_option maxRecDepth 20000 in
theorem gX3_oneTick_X3_stopOrTravel : GoodIn wsX3_oneTick (wsV RX3 108 RX3 yX3_stopOrTravel wsX3_stopOrTravel) := goodIn_app (goodIn_of _ (by decide +kernel)) ggX3_oneTick_X3_stopOrTravel
theorem dX3_oneTick_0 : decode cX3_oneTick 0 = .ok (.iconst 0, 1) := by decide +kernel
theorem dX3_oneTick_1 : decode cX3_oneTick 1 = .ok (.istore_n 1, 1) := by decide +kernel
theorem dX3_oneTick_2 : decode cX3_oneTick 2 = .ok (.iload_n 1, 1) := by decide +kernel
theorem dX3_oneTick_3 : decode cX3_oneTick 3 = .ok (.aload_n 0, 1) := by decide +kernel
theorem dX3_oneTick_4 : decode cX3_oneTick 4 = .ok (.getfield 25, 3) := by decide +kernel
theorem dX3_oneTick_7 : decode cX3_oneTick 7 = .ok (.getfield 92, 3) := by decide +kernel
theorem dX3_oneTick_10 : decode cX3_oneTick 10 = .ok (.if_icmp .ge 51, 3) := by decide +kernel
theorem dX3_oneTick_13 : decode cX3_oneTick 13 = .ok (.aload_n 0, 1) := by decide +kernel
theorem dX3_oneTick_14 : decode cX3_oneTick 14 = .ok (.getfield 25, 3) := by decide +kernel
theorem dX3_oneTick_17 : decode cX3_oneTick 17 = .ok (.getfield 93, 3) := by decide +kernel
theorem dX3_oneTick_20 : decode cX3_oneTick 20 = .ok (.iload_n 1, 1) := by decide +kernel
theorem dX3_oneTick_21 : decode cX3_oneTick 21 = .ok (.iaload, 1) := by decide +kernel
theorem dX3_oneTick_22 : decode cX3_oneTick 22 = .ok (.ifCond .ne 33, 3) := by decide +kernel
theorem dX3_oneTick_25 : decode cX3_oneTick 25 = .ok (.aload_n 0, 1) := by decide +kernel
theorem dX3_oneTick_26 : decode cX3_oneTick 26 = .ok (.getfield 25, 3) := by decide +kernel
theorem dX3_oneTick_29 : decode cX3_oneTick 29 = .ok (.iload_n 1, 1) := by decide +kernel
theorem dX3_oneTick_30 : decode cX3_oneTick 30 = .ok (.aload_n 0, 1) := by decide +kernel
theorem dX3_oneTick_31 : decode cX3_oneTick 31 = .ok (.aload_n 0, 1) := by decide +kernel
theorem dX3_oneTick_32 : decode cX3_oneTick 32 = .ok (.getfield 25, 3) := by decide +kernel
theorem dX3_oneTick_35 : decode cX3_oneTick 35 = .ok (.getfield 96, 3) := by decide +kernel
theorem dX3_oneTick_38 : decode cX3_oneTick 38 = .ok (.iload_n 1, 1) := by decide +kernel
theorem dX3_oneTick_39 : decode cX3_oneTick 39 = .ok (.iaload, 1) := by decide +kernel
theorem dX3_oneTick_40 : decode cX3_oneTick 40 = .ok (.aload_n 0, 1) := by decide +kernel
theorem dX3_oneTick_41 : decode cX3_oneTick 41 = .ok (.getfield 25, 3) := by decide +kernel
theorem dX3_oneTick_44 : decode cX3_oneTick 44 = .ok (.getfield 97, 3) := by decide +kernel
theorem dX3_oneTick_47 : decode cX3_oneTick 47 = .ok (.iload_n 1, 1) := by decide +kernel
theorem dX3_oneTick_48 : decode cX3_oneTick 48 = .ok (.iaload, 1) := by decide +kernel
theorem dX3_oneTick_49 : decode cX3_oneTick 49 = .ok (.invokevirtual 100, 3) := by decide +kernel
theorem dX3_oneTick_52 : decode cX3_oneTick 52 = .ok (.invokevirtual 104, 3) := by decide +kernel
theorem dX3_oneTick_55 : decode cX3_oneTick 55 = .ok (.iinc 1 1, 3) := by decide +kernel
theorem dX3_oneTick_58 : decode cX3_oneTick 58 = .ok (.goto (-56), 3) := by decide +kernel
theorem dX3_oneTick_61 : decode cX3_oneTick 61 = .ok (.iconst 0, 1) := by decide +kernel
theorem dX3_oneTick_62 : decode cX3_oneTick 62 = .ok (.istore_n 1, 1) := by decide +kernel
theorem dX3_oneTick_63 : decode cX3_oneTick 63 = .ok (.iload_n 1, 1) := by decide +kernel
theorem dX3_oneTick_64 : decode cX3_oneTick 64 = .ok (.aload_n 0, 1) := by decide +kernel
theorem dX3_oneTick_65 : decode cX3_oneTick 65 = .ok (.getfield 18, 3) := by decide +kernel
theorem dX3_oneTick_68 : decode cX3_oneTick 68 = .ok (.getfield 81, 3) := by decide +kernel
theorem dX3_oneTick_71 : decode cX3_oneTick 71 = .ok (.if_icmp .ge 26, 3) := by decide +kernel
theorem dX3_oneTick_74 : decode cX3_oneTick 74 = .ok (.aload_n 0, 1) := by decide +kernel
theorem dX3_oneTick_75 : decode cX3_oneTick 75 = .ok (.getfield 18, 3) := by decide +kernel
theorem dX3_oneTick_78 : decode cX3_oneTick 78 = .ok (.getfield 50, 3) := by decide +kernel
theorem dX3_oneTick_81 : decode cX3_oneTick 81 = .ok (.iload_n 1, 1) := by decide +kernel
theorem dX3_oneTick_82 : decode cX3_oneTick 82 = .ok (.iaload, 1) := by decide +kernel
theorem dX3_oneTick_83 : decode cX3_oneTick 83 = .ok (.ifCond .ne 8, 3) := by decide +kernel
theorem dX3_oneTick_86 : decode cX3_oneTick 86 = .ok (.aload_n 0, 1) := by decide +kernel
theorem dX3_oneTick_87 : decode cX3_oneTick 87 = .ok (.iload_n 1, 1) := by decide +kernel
theorem dX3_oneTick_88 : decode cX3_oneTick 88 = .ok (.invokevirtual 108, 3) := by decide +kernel
theorem dX3_oneTick_91 : decode cX3_oneTick 91 = .ok (.iinc 1 1, 3) := by decide +kernel
theorem dX3_oneTick_94 : decode cX3_oneTick 94 = .ok (.goto (-31), 3) := by decide +kernel
theorem dX3_oneTick_97 : decode cX3_oneTick 97 = .ok (.aload_n 0, 1) := by decide +kernel
theorem dX3_oneTick_98 : decode cX3_oneTick 98 = .ok (.dup, 1) := by decide +kernel
theorem dX3_oneTick_99 : decode cX3_oneTick 99 = .ok (.getfield 29, 3) := by decide +kernel
theorem dX3_oneTick_102 : decode cX3_oneTick 102 = .ok (.iconst 1, 1) := by decide +kernel
theorem dX3_oneTick_103 : decode cX3_oneTick 103 = .ok (.iadd, 1) := by decide +kernel
theorem dX3_oneTick_104 : decode cX3_oneTick 104 = .ok (.putfield 29, 3) := by decide +kernel
theorem dX3_oneTick_107 : decode cX3_oneTick 107 = .ok (.return_, 1) := by decide +kernel
set_option maxRecDepth 20000 in
theorem ggX3_stopOrTravel_X0_letOut : GoodIn wsX3_stopOrTravel wsX0_letOut := goodIn_r _ [11, 12, 13, 14, 15, 16, 17, 18, 10, 19, 20, 65, 66, 67, 68, 69, 70, 71, 72, 73] (by decide +kernel) (by decide +kernel)
set_option maxRecDepth 20000 in
theorem gX3_stopOrTravel_X0_letOut : GoodIn wsX3_stopOrTravel (wsV RX3 112 RX0 yX0_letOut wsX0_letOut) := goodIn_app (goodIn_of _ (by decide +kernel)) ggX3_stopOrTravel_X0_letOut
set_option maxRecDepth 20000 in
theorem ggX3_stopOrTravel_X0_takeIn : GoodIn wsX3_stopOrTravel wsX0_takeIn := goodIn_r _ [24, 12, 25, 14, 26, 27, 28, 29, 10, 30, 20, 31, 32, 33, 34, 65, 66, 67, 68, 69, 70, 71, 72, 73] (by decide +kernel) (by decide +kernel)
set_option maxRecDepth 20000 in
theorem gX3_stopOrTravel_X0_takeIn : GoodIn wsX3_stopOrTravel (wsV RX3 118 RX0 yX0_takeIn wsX0_takeIn) := goodIn_app (goodIn_of _ (by decide +kernel)) ggX3_stopOrTravel_X0_takeIn
set_option maxRecDepth 20000 in
theorem ggX3_stopOrTravel_X0_aimOf : GoodIn wsX3_stopOrTravel wsX0_aimOf := goodIn_r _ [38, 12, 13, 25, 16, 17, 18, 10, 19, 14, 20, 39, 40, 41, 42, 43, 44, 45, 31, 32, 33, 34, 65, 66, 67, 68, 69, 70, 71, 72, 73] (by decide +kernel) (by decide +kernel)
set_option maxRecDepth 20000 in
theorem gX3_stopOrTravel_X0_aimOf : GoodIn wsX3_stopOrTravel (wsV RX3 125 RX0 yX0_aimOf wsX0_aimOf) := goodIn_app (goodIn_of _ (by decide +kernel)) ggX3_stopOrTravel_X0_aimOf
set_option maxRecDepth 20000 in
theorem ggX3_stopOrTravel_X1_travelTowards : GoodIn wsX3_stopOrTravel wsX1_travelTowards := goodIn_r _ [50, 51, 52, 57, 58, 59, 60, 61, 62, 63, 64] (by decide +kernel) (by decide +kernel)
set_option maxRecDepth 20000 in
theorem gX3_stopOrTravel_X1_travelTowards : GoodIn wsX3_stopOrTravel (wsV RX3 128 RX1 yX1_travelTowards wsX1_travelTowards) := goodIn_app (goodIn_of _ (by decide +kernel)) ggX3_stopOrTravel_X1_travelTowards
theorem dX3_stopOrTravel_0 : decode cX3_stopOrTravel 0 = .ok (.aload_n 0, 1) := by decide +kernel
theorem dX3_stopOrTravel_1 : decode cX3_stopOrTravel 1 = .ok (.getfield 18, 3) := by decide +kernel
theorem dX3_stopOrTravel_4 : decode cX3_stopOrTravel 4 = .ok (.getfield 61, 3) := by decide +kernel
theorem dX3_stopOrTravel_7 : decode cX3_stopOrTravel 7 = .ok (.iload_n 1, 1) := by decide +kernel
theorem dX3_stopOrTravel_8 : decode cX3_stopOrTravel 8 = .ok (.iaload, 1) := by decide +kernel
theorem dX3_stopOrTravel_9 : decode cX3_stopOrTravel 9 = .ok (.istore_n 2, 1) := by decide +kernel
theorem dX3_stopOrTravel_10 : decode cX3_stopOrTravel 10 = .ok (.aload_n 0, 1) := by decide +kernel
theorem dX3_stopOrTravel_11 : decode cX3_stopOrTravel 11 = .ok (.getfield 25, 3) := by decide +kernel
theorem dX3_stopOrTravel_14 : decode cX3_stopOrTravel 14 = .ok (.iload_n 1, 1) := by decide +kernel
theorem dX3_stopOrTravel_15 : decode cX3_stopOrTravel 15 = .ok (.iload_n 2, 1) := by decide +kernel
theorem dX3_stopOrTravel_16 : decode cX3_stopOrTravel 16 = .ok (.aload_n 0, 1) := by decide +kernel
theorem dX3_stopOrTravel_17 : decode cX3_stopOrTravel 17 = .ok (.getfield 29, 3) := by decide +kernel
theorem dX3_stopOrTravel_20 : decode cX3_stopOrTravel 20 = .ok (.invokevirtual 112, 3) := by decide +kernel
theorem dX3_stopOrTravel_23 : decode cX3_stopOrTravel 23 = .ok (.istore_n 3, 1) := by decide +kernel
theorem dX3_stopOrTravel_24 : decode cX3_stopOrTravel 24 = .ok (.aload_n 0, 1) := by decide +kernel
theorem dX3_stopOrTravel_25 : decode cX3_stopOrTravel 25 = .ok (.getfield 25, 3) := by decide +kernel
theorem dX3_stopOrTravel_28 : decode cX3_stopOrTravel 28 = .ok (.iload_n 1, 1) := by decide +kernel
theorem dX3_stopOrTravel_29 : decode cX3_stopOrTravel 29 = .ok (.iload_n 2, 1) := by decide +kernel
theorem dX3_stopOrTravel_30 : decode cX3_stopOrTravel 30 = .ok (.aload_n 0, 1) := by decide +kernel
theorem dX3_stopOrTravel_31 : decode cX3_stopOrTravel 31 = .ok (.getfield 18, 3) := by decide +kernel
theorem dX3_stopOrTravel_34 : decode cX3_stopOrTravel 34 = .ok (.getfield 115, 3) := by decide +kernel
theorem dX3_stopOrTravel_37 : decode cX3_stopOrTravel 37 = .ok (.iload_n 1, 1) := by decide +kernel
theorem dX3_stopOrTravel_38 : decode cX3_stopOrTravel 38 = .ok (.iaload, 1) := by decide +kernel
theorem dX3_stopOrTravel_39 : decode cX3_stopOrTravel 39 = .ok (.aload_n 0, 1) := by decide +kernel
theorem dX3_stopOrTravel_40 : decode cX3_stopOrTravel 40 = .ok (.getfield 29, 3) := by decide +kernel
theorem dX3_stopOrTravel_43 : decode cX3_stopOrTravel 43 = .ok (.invokevirtual 118, 3) := by decide +kernel
theorem dX3_stopOrTravel_46 : decode cX3_stopOrTravel 46 = .ok (.istore 4, 2) := by decide +kernel
theorem dX3_stopOrTravel_48 : decode cX3_stopOrTravel 48 = .ok (.iload_n 3, 1) := by decide +kernel
theorem dX3_stopOrTravel_49 : decode cX3_stopOrTravel 49 = .ok (.iload 4, 2) := by decide +kernel
theorem dX3_stopOrTravel_51 : decode cX3_stopOrTravel 51 = .ok (.iadd, 1) := by decide +kernel
theorem dX3_stopOrTravel_52 : decode cX3_stopOrTravel 52 = .ok (.ifCond .le 17, 3) := by decide +kernel
theorem dX3_stopOrTravel_55 : decode cX3_stopOrTravel 55 = .ok (.aload_n 0, 1) := by decide +kernel
theorem dX3_stopOrTravel_56 : decode cX3_stopOrTravel 56 = .ok (.getfield 18, 3) := by decide +kernel
theorem dX3_stopOrTravel_59 : decode cX3_stopOrTravel 59 = .ok (.dup, 1) := by decide +kernel
theorem dX3_stopOrTravel_60 : decode cX3_stopOrTravel 60 = .ok (.getfield 122, 3) := by decide +kernel
theorem dX3_stopOrTravel_63 : decode cX3_stopOrTravel 63 = .ok (.iconst 1, 1) := by decide +kernel
theorem dX3_stopOrTravel_64 : decode cX3_stopOrTravel 64 = .ok (.iadd, 1) := by decide +kernel
theorem dX3_stopOrTravel_65 : decode cX3_stopOrTravel 65 = .ok (.putfield 122, 3) := by decide +kernel
theorem dX3_stopOrTravel_68 : decode cX3_stopOrTravel 68 = .ok (.return_, 1) := by decide +kernel
theorem dX3_stopOrTravel_69 : decode cX3_stopOrTravel 69 = .ok (.aload_n 0, 1) := by decide +kernel
theorem dX3_stopOrTravel_70 : decode cX3_stopOrTravel 70 = .ok (.getfield 25, 3) := by decide +kernel
theorem dX3_stopOrTravel_73 : decode cX3_stopOrTravel 73 = .ok (.iload_n 1, 1) := by decide +kernel
theorem dX3_stopOrTravel_74 : decode cX3_stopOrTravel 74 = .ok (.iload_n 2, 1) := by decide +kernel
theorem dX3_stopOrTravel_75 : decode cX3_stopOrTravel 75 = .ok (.invokevirtual 125, 3) := by decide +kernel
theorem dX3_stopOrTravel_78 : decode cX3_stopOrTravel 78 = .ok (.istore 5, 2) := by decide +kernel
theorem dX3_stopOrTravel_80 : decode cX3_stopOrTravel 80 = .ok (.iload 5, 2) := by decide +kernel
theorem dX3_stopOrTravel_82 : decode cX3_stopOrTravel 82 = .ok (.bipush (-9), 2) := by decide +kernel
theorem dX3_stopOrTravel_84 : decode cX3_stopOrTravel 84 = .ok (.if_icmp .eq 13, 3) := by decide +kernel
theorem dX3_stopOrTravel_87 : decode cX3_stopOrTravel 87 = .ok (.aload_n 0, 1) := by decide +kernel
theorem dX3_stopOrTravel_88 : decode cX3_stopOrTravel 88 = .ok (.getfield 18, 3) := by decide +kernel
theorem dX3_stopOrTravel_91 : decode cX3_stopOrTravel 91 = .ok (.iload_n 1, 1) := by decide +kernel
theorem dX3_stopOrTravel_92 : decode cX3_stopOrTravel 92 = .ok (.iload 5, 2) := by decide +kernel
theorem dX3_stopOrTravel_94 : decode cX3_stopOrTravel 94 = .ok (.invokevirtual 128, 3) := by decide +kernel
theorem dX3_stopOrTravel_97 : decode cX3_stopOrTravel 97 = .ok (.return_, 1) := by decide +kernel
set_option maxRecDepth 20000 in
theorem ggX3_breakCar_X0_loseCar : GoodIn wsX3_breakCar wsX0_loseCar := goodIn_r _ [10, 11, 12, 13, 14, 15, 16, 17, 18, 19, 9, 20, 21, 22, 23, 24, 37, 38, 39, 40, 41, 42, 43, 44, 45] (by decide +kernel) (by decide +kernel)
set_option maxRecDepth 20000 in
theorem gX3_breakCar_X0_loseCar : GoodIn wsX3_breakCar (wsV RX3 131 RX0 yX0_loseCar wsX0_loseCar) := goodIn_app (goodIn_of _ (by decide +kernel)) ggX3_breakCar_X0_loseCar
theorem dX3_breakCar_0 : decode cX3_breakCar 0 = .ok (.aload_n 0, 1) := by decide +kernel
theorem dX3_breakCar_1 : decode cX3_breakCar 1 = .ok (.getfield 18, 3) := by decide +kernel
theorem dX3_breakCar_4 : decode cX3_breakCar 4 = .ok (.getfield 50, 3) := by decide +kernel
theorem dX3_breakCar_7 : decode cX3_breakCar 7 = .ok (.iload_n 1, 1) := by decide +kernel
theorem dX3_breakCar_8 : decode cX3_breakCar 8 = .ok (.iconst 2, 1) := by decide +kernel
theorem dX3_breakCar_9 : decode cX3_breakCar 9 = .ok (.iastore, 1) := by decide +kernel
theorem dX3_breakCar_10 : decode cX3_breakCar 10 = .ok (.aload_n 0, 1) := by decide +kernel
theorem dX3_breakCar_11 : decode cX3_breakCar 11 = .ok (.getfield 25, 3) := by decide +kernel
theorem dX3_breakCar_14 : decode cX3_breakCar 14 = .ok (.iload_n 1, 1) := by decide +kernel
theorem dX3_breakCar_15 : decode cX3_breakCar 15 = .ok (.aload_n 0, 1) := by decide +kernel
theorem dX3_breakCar_16 : decode cX3_breakCar 16 = .ok (.getfield 18, 3) := by decide +kernel
theorem dX3_breakCar_19 : decode cX3_breakCar 19 = .ok (.getfield 61, 3) := by decide +kernel
theorem dX3_breakCar_22 : decode cX3_breakCar 22 = .ok (.iload_n 1, 1) := by decide +kernel
theorem dX3_breakCar_23 : decode cX3_breakCar 23 = .ok (.iaload, 1) := by decide +kernel
theorem dX3_breakCar_24 : decode cX3_breakCar 24 = .ok (.aload_n 0, 1) := by decide +kernel
theorem dX3_breakCar_25 : decode cX3_breakCar 25 = .ok (.getfield 29, 3) := by decide +kernel
theorem dX3_breakCar_28 : decode cX3_breakCar 28 = .ok (.invokevirtual 131, 3) := by decide +kernel
theorem dX3_breakCar_31 : decode cX3_breakCar 31 = .ok (.return_, 1) := by decide +kernel
theorem dJ6_bitCount_0f7a4_0 : decode cJ6_bitCount_0f7a4 0 = .ok (.iload_n 0, 1) := by decide +kernel
theorem dJ6_bitCount_0f7a4_1 : decode cJ6_bitCount_0f7a4 1 = .ok (.iload_n 0, 1) := by decide +kernel
theorem dJ6_bitCount_0f7a4_2 : decode cJ6_bitCount_0f7a4 2 = .ok (.iconst 1, 1) := by decide +kernel
theorem dJ6_bitCount_0f7a4_3 : decode cJ6_bitCount_0f7a4 3 = .ok (.iushr, 1) := by decide +kernel
theorem dJ6_bitCount_0f7a4_4 : decode cJ6_bitCount_0f7a4 4 = .ok (.ldc_w 265, 3) := by decide +kernel
theorem dJ6_bitCount_0f7a4_7 : decode cJ6_bitCount_0f7a4 7 = .ok (.iand, 1) := by decide +kernel
theorem dJ6_bitCount_0f7a4_8 : decode cJ6_bitCount_0f7a4 8 = .ok (.isub, 1) := by decide +kernel
theorem dJ6_bitCount_0f7a4_9 : decode cJ6_bitCount_0f7a4 9 = .ok (.istore_n 0, 1) := by decide +kernel
theorem dJ6_bitCount_0f7a4_10 : decode cJ6_bitCount_0f7a4 10 = .ok (.iload_n 0, 1) := by decide +kernel
theorem dJ6_bitCount_0f7a4_11 : decode cJ6_bitCount_0f7a4 11 = .ok (.ldc_w 266, 3) := by decide +kernel
theorem dJ6_bitCount_0f7a4_14 : decode cJ6_bitCount_0f7a4 14 = .ok (.iand, 1) := by decide +kernel
theorem dJ6_bitCount_0f7a4_15 : decode cJ6_bitCount_0f7a4 15 = .ok (.iload_n 0, 1) := by decide +kernel
theorem dJ6_bitCount_0f7a4_16 : decode cJ6_bitCount_0f7a4 16 = .ok (.iconst 2, 1) := by decide +kernel
theorem dJ6_bitCount_0f7a4_17 : decode cJ6_bitCount_0f7a4 17 = .ok (.iushr, 1) := by decide +kernel
theorem dJ6_bitCount_0f7a4_18 : decode cJ6_bitCount_0f7a4 18 = .ok (.ldc_w 266, 3) := by decide +kernel
theorem dJ6_bitCount_0f7a4_21 : decode cJ6_bitCount_0f7a4 21 = .ok (.iand, 1) := by decide +kernel
theorem dJ6_bitCount_0f7a4_22 : decode cJ6_bitCount_0f7a4 22 = .ok (.iadd, 1) := by decide +kernel
theorem dJ6_bitCount_0f7a4_23 : decode cJ6_bitCount_0f7a4 23 = .ok (.istore_n 0, 1) := by decide +kernel
theorem dJ6_bitCount_0f7a4_24 : decode cJ6_bitCount_0f7a4 24 = .ok (.iload_n 0, 1) := by decide +kernel
theorem dJ6_bitCount_0f7a4_25 : decode cJ6_bitCount_0f7a4 25 = .ok (.iload_n 0, 1) := by decide +kernel
theorem dJ6_bitCount_0f7a4_26 : decode cJ6_bitCount_0f7a4 26 = .ok (.iconst 4, 1) := by decide +kernel
theorem dJ6_bitCount_0f7a4_27 : decode cJ6_bitCount_0f7a4 27 = .ok (.iushr, 1) := by decide +kernel
theorem dJ6_bitCount_0f7a4_28 : decode cJ6_bitCount_0f7a4 28 = .ok (.iadd, 1) := by decide +kernel
theorem dJ6_bitCount_0f7a4_29 : decode cJ6_bitCount_0f7a4 29 = .ok (.ldc_w 267, 3) := by decide +kernel
theorem dJ6_bitCount_0f7a4_32 : decode cJ6_bitCount_0f7a4 32 = .ok (.iand, 1) := by decide +kernel
theorem dJ6_bitCount_0f7a4_33 : decode cJ6_bitCount_0f7a4 33 = .ok (.istore_n 0, 1) := by decide +kernel
theorem dJ6_bitCount_0f7a4_34 : decode cJ6_bitCount_0f7a4 34 = .ok (.iload_n 0, 1) := by decide +kernel
theorem dJ6_bitCount_0f7a4_35 : decode cJ6_bitCount_0f7a4 35 = .ok (.iload_n 0, 1) := by decide +kernel
theorem dJ6_bitCount_0f7a4_36 : decode cJ6_bitCount_0f7a4 36 = .ok (.bipush 8, 2) := by decide +kernel
theorem dJ6_bitCount_0f7a4_38 : decode cJ6_bitCount_0f7a4 38 = .ok (.iushr, 1) := by decide +kernel
theorem dJ6_bitCount_0f7a4_39 : decode cJ6_bitCount_0f7a4 39 = .ok (.iadd, 1) := by decide +kernel
theorem dJ6_bitCount_0f7a4_40 : decode cJ6_bitCount_0f7a4 40 = .ok (.istore_n 0, 1) := by decide +kernel
theorem dJ6_bitCount_0f7a4_41 : decode cJ6_bitCount_0f7a4 41 = .ok (.iload_n 0, 1) := by decide +kernel
theorem dJ6_bitCount_0f7a4_42 : decode cJ6_bitCount_0f7a4 42 = .ok (.iload_n 0, 1) := by decide +kernel
theorem dJ6_bitCount_0f7a4_43 : decode cJ6_bitCount_0f7a4 43 = .ok (.bipush 16, 2) := by decide +kernel
theorem dJ6_bitCount_0f7a4_45 : decode cJ6_bitCount_0f7a4 45 = .ok (.iushr, 1) := by decide +kernel
theorem dJ6_bitCount_0f7a4_46 : decode cJ6_bitCount_0f7a4 46 = .ok (.iadd, 1) := by decide +kernel
theorem dJ6_bitCount_0f7a4_47 : decode cJ6_bitCount_0f7a4 47 = .ok (.istore_n 0, 1) := by decide +kernel
theorem dJ6_bitCount_0f7a4_48 : decode cJ6_bitCount_0f7a4 48 = .ok (.iload_n 0, 1) := by decide +kernel
theorem dJ6_bitCount_0f7a4_49 : decode cJ6_bitCount_0f7a4 49 = .ok (.bipush 63, 2) := by decide +kernel
theorem dJ6_bitCount_0f7a4_51 : decode cJ6_bitCount_0f7a4 51 = .ok (.iand, 1) := by decide +kernel
theorem dJ6_bitCount_0f7a4_52 : decode cJ6_bitCount_0f7a4 52 = .ok (.ireturn, 1) := by decide +kernel
theorem dJ9_floorMod_7cf53_0 : decode cJ9_floorMod_7cf53 0 = .ok (.iload_n 0, 1) := by decide +kernel
theorem dJ9_floorMod_7cf53_1 : decode cJ9_floorMod_7cf53 1 = .ok (.iload_n 1, 1) := by decide +kernel
theorem dJ9_floorMod_7cf53_2 : decode cJ9_floorMod_7cf53 2 = .ok (.irem, 1) := by decide +kernel
theorem dJ9_floorMod_7cf53_3 : decode cJ9_floorMod_7cf53 3 = .ok (.istore_n 2, 1) := by decide +kernel
theorem dJ9_floorMod_7cf53_4 : decode cJ9_floorMod_7cf53 4 = .ok (.iload_n 0, 1) := by decide +kernel
theorem dJ9_floorMod_7cf53_5 : decode cJ9_floorMod_7cf53 5 = .ok (.iload_n 1, 1) := by decide +kernel
theorem dJ9_floorMod_7cf53_6 : decode cJ9_floorMod_7cf53 6 = .ok (.ixor, 1) := by decide +kernel
theorem dJ9_floorMod_7cf53_7 : decode cJ9_floorMod_7cf53 7 = .ok (.ifCond .ge 11, 3) := by decide +kernel
theorem dJ9_floorMod_7cf53_10 : decode cJ9_floorMod_7cf53 10 = .ok (.iload_n 2, 1) := by decide +kernel
theorem dJ9_floorMod_7cf53_11 : decode cJ9_floorMod_7cf53 11 = .ok (.ifCond .eq 7, 3) := by decide +kernel
theorem dJ9_floorMod_7cf53_14 : decode cJ9_floorMod_7cf53 14 = .ok (.iload_n 2, 1) := by decide +kernel
theorem dJ9_floorMod_7cf53_15 : decode cJ9_floorMod_7cf53 15 = .ok (.iload_n 1, 1) := by decide +kernel
theorem dJ9_floorMod_7cf53_16 : decode cJ9_floorMod_7cf53 16 = .ok (.iadd, 1) := by decide +kernel
theorem dJ9_floorMod_7cf53_17 : decode cJ9_floorMod_7cf53 17 = .ok (.ireturn, 1) := by decide +kernel
theorem dJ9_floorMod_7cf53_18 : decode cJ9_floorMod_7cf53 18 = .ok (.iload_n 2, 1) := by decide +kernel
theorem dJ9_floorMod_7cf53_19 : decode cJ9_floorMod_7cf53 19 = .ok (.ireturn, 1) := by decide +kernel
theorem dJ9_abs_0f7a4_0 : decode cJ9_abs_0f7a4 0 = .ok (.iload_n 0, 1) := by decide +kernel
theorem dJ9_abs_0f7a4_1 : decode cJ9_abs_0f7a4 1 = .ok (.ifCond .ge 8, 3) := by decide +kernel
theorem dJ9_abs_0f7a4_4 : decode cJ9_abs_0f7a4 4 = .ok (.iload_n 0, 1) := by decide +kernel
theorem dJ9_abs_0f7a4_5 : decode cJ9_abs_0f7a4 5 = .ok (.ineg, 1) := by decide +kernel
theorem dJ9_abs_0f7a4_6 : decode cJ9_abs_0f7a4 6 = .ok (.goto 4, 3) := by decide +kernel
theorem dJ9_abs_0f7a4_9 : decode cJ9_abs_0f7a4 9 = .ok (.iload_n 0, 1) := by decide +kernel
theorem dJ9_abs_0f7a4_10 : decode cJ9_abs_0f7a4 10 = .ok (.ireturn, 1) := by decide +kernel
theorem dJ9_min_7cf53_0 : decode cJ9_min_7cf53 0 = .ok (.iload_n 0, 1) := by decide +kernel
theorem dJ9_min_7cf53_1 : decode cJ9_min_7cf53 1 = .ok (.iload_n 1, 1) := by decide +kernel
theorem dJ9_min_7cf53_2 : decode cJ9_min_7cf53 2 = .ok (.if_icmp .gt 7, 3) := by decide +kernel
theorem dJ9_min_7cf53_5 : decode cJ9_min_7cf53 5 = .ok (.iload_n 0, 1) := by decide +kernel
theorem dJ9_min_7cf53_6 : decode cJ9_min_7cf53 6 = .ok (.goto 4, 3) := by decide +kernel
theorem dJ9_min_7cf53_9 : decode cJ9_min_7cf53 9 = .ok (.iload_n 1, 1) := by decide +kernel
theorem dJ9_min_7cf53_10 : decode cJ9_min_7cf53 10 = .ok (.ireturn, 1) := by decide +kernel
