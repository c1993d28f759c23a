theorem dX0_init_0 : decode cX0_init 0 = .ok (.aload_n 0, 1) := by decide +kernel
theorem dX0_init_1 : decode cX0_init 1 = .ok (.invokespecial 3, 3) := by decide +kernel
theorem dX0_init_4 : decode cX0_init 4 = .ok (.aload_n 0, 1) := by decide +kernel
theorem dX0_init_5 : decode cX0_init 5 = .ok (.bipush 40, 2) := by decide +kernel
theorem dX0_init_7 : decode cX0_init 7 = .ok (.newarray .int, 2) := by decide +kernel
theorem dX0_init_9 : decode cX0_init 9 = .ok (.putfield 9, 3) := by decide +kernel
theorem dX0_init_12 : decode cX0_init 12 = .ok (.aload_n 0, 1) := by decide +kernel
theorem dX0_init_13 : decode cX0_init 13 = .ok (.bipush 40, 2) := by decide +kernel
theorem dX0_init_15 : decode cX0_init 15 = .ok (.newarray .int, 2) := by decide +kernel
theorem dX0_init_17 : decode cX0_init 17 = .ok (.putfield 15, 3) := by decide +kernel
theorem dX0_init_20 : decode cX0_init 20 = .ok (.aload_n 0, 1) := by decide +kernel
theorem dX0_init_21 : decode cX0_init 21 = .ok (.bipush 40, 2) := by decide +kernel
theorem dX0_init_23 : decode cX0_init 23 = .ok (.newarray .int, 2) := by decide +kernel
theorem dX0_init_25 : decode cX0_init 25 = .ok (.putfield 18, 3) := by decide +kernel
theorem dX0_init_28 : decode cX0_init 28 = .ok (.aload_n 0, 1) := by decide +kernel
theorem dX0_init_29 : decode cX0_init 29 = .ok (.bipush 40, 2) := by decide +kernel
theorem dX0_init_31 : decode cX0_init 31 = .ok (.newarray .int, 2) := by decide +kernel
theorem dX0_init_33 : decode cX0_init 33 = .ok (.putfield 21, 3) := by decide +kernel
theorem dX0_init_36 : decode cX0_init 36 = .ok (.aload_n 0, 1) := by decide +kernel
theorem dX0_init_37 : decode cX0_init 37 = .ok (.bipush 40, 2) := by decide +kernel
theorem dX0_init_39 : decode cX0_init 39 = .ok (.newarray .int, 2) := by decide +kernel
theorem dX0_init_41 : decode cX0_init 41 = .ok (.putfield 24, 3) := by decide +kernel
theorem dX0_init_44 : decode cX0_init 44 = .ok (.aload_n 0, 1) := by decide +kernel
theorem dX0_init_45 : decode cX0_init 45 = .ok (.bipush 40, 2) := by decide +kernel
theorem dX0_init_47 : decode cX0_init 47 = .ok (.newarray .int, 2) := by decide +kernel
theorem dX0_init_49 : decode cX0_init 49 = .ok (.putfield 27, 3) := by decide +kernel
theorem dX0_init_52 : decode cX0_init 52 = .ok (.aload_n 0, 1) := by decide +kernel
theorem dX0_init_53 : decode cX0_init 53 = .ok (.bipush 40, 2) := by decide +kernel
theorem dX0_init_55 : decode cX0_init 55 = .ok (.newarray .int, 2) := by decide +kernel
theorem dX0_init_57 : decode cX0_init 57 = .ok (.putfield 30, 3) := by decide +kernel
theorem dX0_init_60 : decode cX0_init 60 = .ok (.aload_n 0, 1) := by decide +kernel
theorem dX0_init_61 : decode cX0_init 61 = .ok (.bipush 40, 2) := by decide +kernel
theorem dX0_init_63 : decode cX0_init 63 = .ok (.newarray .int, 2) := by decide +kernel
theorem dX0_init_65 : decode cX0_init 65 = .ok (.putfield 33, 3) := by decide +kernel
theorem dX0_init_68 : decode cX0_init 68 = .ok (.return_, 1) := by decide +kernel
theorem dX0_copyFrom_0 : decode cX0_copyFrom 0 = .ok (.aload_n 0, 1) := by decide +kernel
theorem dX0_copyFrom_1 : decode cX0_copyFrom 1 = .ok (.aload_n 1, 1) := by decide +kernel
theorem dX0_copyFrom_2 : decode cX0_copyFrom 2 = .ok (.getfield 36, 3) := by decide +kernel
theorem dX0_copyFrom_5 : decode cX0_copyFrom 5 = .ok (.putfield 36, 3) := by decide +kernel
theorem dX0_copyFrom_8 : decode cX0_copyFrom 8 = .ok (.aload_n 1, 1) := by decide +kernel
theorem dX0_copyFrom_9 : decode cX0_copyFrom 9 = .ok (.getfield 9, 3) := by decide +kernel
theorem dX0_copyFrom_12 : decode cX0_copyFrom 12 = .ok (.iconst 0, 1) := by decide +kernel
theorem dX0_copyFrom_13 : decode cX0_copyFrom 13 = .ok (.aload_n 0, 1) := by decide +kernel
theorem dX0_copyFrom_14 : decode cX0_copyFrom 14 = .ok (.getfield 9, 3) := by decide +kernel
theorem dX0_copyFrom_17 : decode cX0_copyFrom 17 = .ok (.iconst 0, 1) := by decide +kernel
theorem dX0_copyFrom_18 : decode cX0_copyFrom 18 = .ok (.bipush 40, 2) := by decide +kernel
theorem dX0_copyFrom_20 : decode cX0_copyFrom 20 = .ok (.invokestatic 40, 3) := by decide +kernel
theorem dX0_copyFrom_23 : decode cX0_copyFrom 23 = .ok (.aload_n 1, 1) := by decide +kernel
theorem dX0_copyFrom_24 : decode cX0_copyFrom 24 = .ok (.getfield 15, 3) := by decide +kernel
theorem dX0_copyFrom_27 : decode cX0_copyFrom 27 = .ok (.iconst 0, 1) := by decide +kernel
theorem dX0_copyFrom_28 : decode cX0_copyFrom 28 = .ok (.aload_n 0, 1) := by decide +kernel
theorem dX0_copyFrom_29 : decode cX0_copyFrom 29 = .ok (.getfield 15, 3) := by decide +kernel
theorem dX0_copyFrom_32 : decode cX0_copyFrom 32 = .ok (.iconst 0, 1) := by decide +kernel
theorem dX0_copyFrom_33 : decode cX0_copyFrom 33 = .ok (.bipush 40, 2) := by decide +kernel
theorem dX0_copyFrom_35 : decode cX0_copyFrom 35 = .ok (.invokestatic 40, 3) := by decide +kernel
theorem dX0_copyFrom_38 : decode cX0_copyFrom 38 = .ok (.aload_n 1, 1) := by decide +kernel
theorem dX0_copyFrom_39 : decode cX0_copyFrom 39 = .ok (.getfield 18, 3) := by decide +kernel
theorem dX0_copyFrom_42 : decode cX0_copyFrom 42 = .ok (.iconst 0, 1) := by decide +kernel
theorem dX0_copyFrom_43 : decode cX0_copyFrom 43 = .ok (.aload_n 0, 1) := by decide +kernel
theorem dX0_copyFrom_44 : decode cX0_copyFrom 44 = .ok (.getfield 18, 3) := by decide +kernel
theorem dX0_copyFrom_47 : decode cX0_copyFrom 47 = .ok (.iconst 0, 1) := by decide +kernel
theorem dX0_copyFrom_48 : decode cX0_copyFrom 48 = .ok (.bipush 40, 2) := by decide +kernel
theorem dX0_copyFrom_50 : decode cX0_copyFrom 50 = .ok (.invokestatic 40, 3) := by decide +kernel
theorem dX0_copyFrom_53 : decode cX0_copyFrom 53 = .ok (.aload_n 1, 1) := by decide +kernel
theorem dX0_copyFrom_54 : decode cX0_copyFrom 54 = .ok (.getfield 21, 3) := by decide +kernel
theorem dX0_copyFrom_57 : decode cX0_copyFrom 57 = .ok (.iconst 0, 1) := by decide +kernel
theorem dX0_copyFrom_58 : decode cX0_copyFrom 58 = .ok (.aload_n 0, 1) := by decide +kernel
theorem dX0_copyFrom_59 : decode cX0_copyFrom 59 = .ok (.getfield 21, 3) := by decide +kernel
theorem dX0_copyFrom_62 : decode cX0_copyFrom 62 = .ok (.iconst 0, 1) := by decide +kernel
theorem dX0_copyFrom_63 : decode cX0_copyFrom 63 = .ok (.bipush 40, 2) := by decide +kernel
theorem dX0_copyFrom_65 : decode cX0_copyFrom 65 = .ok (.invokestatic 40, 3) := by decide +kernel
theorem dX0_copyFrom_68 : decode cX0_copyFrom 68 = .ok (.aload_n 1, 1) := by decide +kernel
theorem dX0_copyFrom_69 : decode cX0_copyFrom 69 = .ok (.getfield 24, 3) := by decide +kernel
theorem dX0_copyFrom_72 : decode cX0_copyFrom 72 = .ok (.iconst 0, 1) := by decide +kernel
theorem dX0_copyFrom_73 : decode cX0_copyFrom 73 = .ok (.aload_n 0, 1) := by decide +kernel
theorem dX0_copyFrom_74 : decode cX0_copyFrom 74 = .ok (.getfield 24, 3) := by decide +kernel
theorem dX0_copyFrom_77 : decode cX0_copyFrom 77 = .ok (.iconst 0, 1) := by decide +kernel
theorem dX0_copyFrom_78 : decode cX0_copyFrom 78 = .ok (.bipush 40, 2) := by decide +kernel
theorem dX0_copyFrom_80 : decode cX0_copyFrom 80 = .ok (.invokestatic 40, 3) := by decide +kernel
theorem dX0_copyFrom_83 : decode cX0_copyFrom 83 = .ok (.aload_n 1, 1) := by decide +kernel
theorem dX0_copyFrom_84 : decode cX0_copyFrom 84 = .ok (.getfield 27, 3) := by decide +kernel
theorem dX0_copyFrom_87 : decode cX0_copyFrom 87 = .ok (.iconst 0, 1) := by decide +kernel
theorem dX0_copyFrom_88 : decode cX0_copyFrom 88 = .ok (.aload_n 0, 1) := by decide +kernel
theorem dX0_copyFrom_89 : decode cX0_copyFrom 89 = .ok (.getfield 27, 3) := by decide +kernel
theorem dX0_copyFrom_92 : decode cX0_copyFrom 92 = .ok (.iconst 0, 1) := by decide +kernel
theorem dX0_copyFrom_93 : decode cX0_copyFrom 93 = .ok (.bipush 40, 2) := by decide +kernel
theorem dX0_copyFrom_95 : decode cX0_copyFrom 95 = .ok (.invokestatic 40, 3) := by decide +kernel
theorem dX0_copyFrom_98 : decode cX0_copyFrom 98 = .ok (.aload_n 1, 1) := by decide +kernel
theorem dX0_copyFrom_99 : decode cX0_copyFrom 99 = .ok (.getfield 30, 3) := by decide +kernel
theorem dX0_copyFrom_102 : decode cX0_copyFrom 102 = .ok (.iconst 0, 1) := by decide +kernel
theorem dX0_copyFrom_103 : decode cX0_copyFrom 103 = .ok (.aload_n 0, 1) := by decide +kernel
theorem dX0_copyFrom_104 : decode cX0_copyFrom 104 = .ok (.getfield 30, 3) := by decide +kernel
theorem dX0_copyFrom_107 : decode cX0_copyFrom 107 = .ok (.iconst 0, 1) := by decide +kernel
theorem dX0_copyFrom_108 : decode cX0_copyFrom 108 = .ok (.bipush 40, 2) := by decide +kernel
theorem dX0_copyFrom_110 : decode cX0_copyFrom 110 = .ok (.invokestatic 40, 3) := by decide +kernel
theorem dX0_copyFrom_113 : decode cX0_copyFrom 113 = .ok (.aload_n 1, 1) := by decide +kernel
theorem dX0_copyFrom_114 : decode cX0_copyFrom 114 = .ok (.getfield 33, 3) := by decide +kernel
theorem dX0_copyFrom_117 : decode cX0_copyFrom 117 = .ok (.iconst 0, 1) := by decide +kernel
theorem dX0_copyFrom_118 : decode cX0_copyFrom 118 = .ok (.aload_n 0, 1) := by decide +kernel
theorem dX0_copyFrom_119 : decode cX0_copyFrom 119 = .ok (.getfield 33, 3) := by decide +kernel
theorem dX0_copyFrom_122 : decode cX0_copyFrom 122 = .ok (.iconst 0, 1) := by decide +kernel
theorem dX0_copyFrom_123 : decode cX0_copyFrom 123 = .ok (.bipush 40, 2) := by decide +kernel
theorem dX0_copyFrom_125 : decode cX0_copyFrom 125 = .ok (.invokestatic 40, 3) := by decide +kernel
theorem dX0_copyFrom_128 : decode cX0_copyFrom 128 = .ok (.return_, 1) := by decide +kernel
theorem dX0_has_0 : decode cX0_has 0 = .ok (.iload_n 1, 1) := by decide +kernel
theorem dX0_has_1 : decode cX0_has 1 = .ok (.ifCond .lt 15, 3) := by decide +kernel
theorem dX0_has_4 : decode cX0_has 4 = .ok (.iload_n 1, 1) := by decide +kernel
theorem dX0_has_5 : decode cX0_has 5 = .ok (.aload_n 0, 1) := by decide +kernel
theorem dX0_has_6 : decode cX0_has 6 = .ok (.getfield 36, 3) := by decide +kernel
theorem dX0_has_9 : decode cX0_has 9 = .ok (.if_icmp .ge 7, 3) := by decide +kernel
theorem dX0_has_12 : decode cX0_has 12 = .ok (.iconst 1, 1) := by decide +kernel
theorem dX0_has_13 : decode cX0_has 13 = .ok (.goto 4, 3) := by decide +kernel
theorem dX0_has_16 : decode cX0_has 16 = .ok (.iconst 0, 1) := by decide +kernel
theorem dX0_has_17 : decode cX0_has 17 = .ok (.ireturn, 1) := by decide +kernel
theorem dX0_add_0 : decode cX0_add 0 = .ok (.aload_n 0, 1) := by decide +kernel
theorem dX0_add_1 : decode cX0_add 1 = .ok (.getfield 36, 3) := by decide +kernel
theorem dX0_add_4 : decode cX0_add 4 = .ok (.istore 4, 2) := by decide +kernel
theorem dX0_add_6 : decode cX0_add 6 = .ok (.iload 4, 2) := by decide +kernel
theorem dX0_add_8 : decode cX0_add 8 = .ok (.bipush 40, 2) := by decide +kernel
theorem dX0_add_10 : decode cX0_add 10 = .ok (.if_icmp .lt 6, 3) := by decide +kernel
theorem dX0_add_13 : decode cX0_add 13 = .ok (.bipush (-9), 2) := by decide +kernel
theorem dX0_add_15 : decode cX0_add 15 = .ok (.ireturn, 1) := by decide +kernel
theorem dX0_add_16 : decode cX0_add 16 = .ok (.aload_n 0, 1) := by decide +kernel
theorem dX0_add_17 : decode cX0_add 17 = .ok (.getfield 9, 3) := by decide +kernel
theorem dX0_add_20 : decode cX0_add 20 = .ok (.iload 4, 2) := by decide +kernel
theorem dX0_add_22 : decode cX0_add 22 = .ok (.iload_n 1, 1) := by decide +kernel
theorem dX0_add_23 : decode cX0_add 23 = .ok (.iastore, 1) := by decide +kernel
theorem dX0_add_24 : decode cX0_add 24 = .ok (.aload_n 0, 1) := by decide +kernel
theorem dX0_add_25 : decode cX0_add 25 = .ok (.getfield 15, 3) := by decide +kernel
theorem dX0_add_28 : decode cX0_add 28 = .ok (.iload 4, 2) := by decide +kernel
theorem dX0_add_30 : decode cX0_add 30 = .ok (.iload_n 2, 1) := by decide +kernel
theorem dX0_add_31 : decode cX0_add 31 = .ok (.iastore, 1) := by decide +kernel
theorem dX0_add_32 : decode cX0_add 32 = .ok (.aload_n 0, 1) := by decide +kernel
theorem dX0_add_33 : decode cX0_add 33 = .ok (.getfield 18, 3) := by decide +kernel
theorem dX0_add_36 : decode cX0_add 36 = .ok (.iload 4, 2) := by decide +kernel
theorem dX0_add_38 : decode cX0_add 38 = .ok (.iconst 0, 1) := by decide +kernel
theorem dX0_add_39 : decode cX0_add 39 = .ok (.iastore, 1) := by decide +kernel
theorem dX0_add_40 : decode cX0_add 40 = .ok (.aload_n 0, 1) := by decide +kernel
theorem dX0_add_41 : decode cX0_add 41 = .ok (.getfield 21, 3) := by decide +kernel
theorem dX0_add_44 : decode cX0_add 44 = .ok (.iload 4, 2) := by decide +kernel
theorem dX0_add_46 : decode cX0_add 46 = .ok (.bipush (-9), 2) := by decide +kernel
theorem dX0_add_48 : decode cX0_add 48 = .ok (.iastore, 1) := by decide +kernel
theorem dX0_add_49 : decode cX0_add 49 = .ok (.aload_n 0, 1) := by decide +kernel
theorem dX0_add_50 : decode cX0_add 50 = .ok (.getfield 24, 3) := by decide +kernel
theorem dX0_add_53 : decode cX0_add 53 = .ok (.iload 4, 2) := by decide +kernel
theorem dX0_add_55 : decode cX0_add 55 = .ok (.iload_n 3, 1) := by decide +kernel
theorem dX0_add_56 : decode cX0_add 56 = .ok (.iastore, 1) := by decide +kernel
theorem dX0_add_57 : decode cX0_add 57 = .ok (.aload_n 0, 1) := by decide +kernel
theorem dX0_add_58 : decode cX0_add 58 = .ok (.getfield 27, 3) := by decide +kernel
theorem dX0_add_61 : decode cX0_add 61 = .ok (.iload 4, 2) := by decide +kernel
theorem dX0_add_63 : decode cX0_add 63 = .ok (.bipush (-9), 2) := by decide +kernel
theorem dX0_add_65 : decode cX0_add 65 = .ok (.iastore, 1) := by decide +kernel
theorem dX0_add_66 : decode cX0_add 66 = .ok (.aload_n 0, 1) := by decide +kernel
theorem dX0_add_67 : decode cX0_add 67 = .ok (.getfield 30, 3) := by decide +kernel
theorem dX0_add_70 : decode cX0_add 70 = .ok (.iload 4, 2) := by decide +kernel
theorem dX0_add_72 : decode cX0_add 72 = .ok (.bipush (-9), 2) := by decide +kernel
theorem dX0_add_74 : decode cX0_add 74 = .ok (.iastore, 1) := by decide +kernel
theorem dX0_add_75 : decode cX0_add 75 = .ok (.aload_n 0, 1) := by decide +kernel
theorem dX0_add_76 : decode cX0_add 76 = .ok (.getfield 33, 3) := by decide +kernel
theorem dX0_add_79 : decode cX0_add 79 = .ok (.iload 4, 2) := by decide +kernel
theorem dX0_add_81 : decode cX0_add 81 = .ok (.iconst 0, 1) := by decide +kernel
theorem dX0_add_82 : decode cX0_add 82 = .ok (.iastore, 1) := by decide +kernel
theorem dX0_add_83 : decode cX0_add 83 = .ok (.aload_n 0, 1) := by decide +kernel
theorem dX0_add_84 : decode cX0_add 84 = .ok (.iload 4, 2) := by decide +kernel
theorem dX0_add_86 : decode cX0_add 86 = .ok (.iconst 1, 1) := by decide +kernel
theorem dX0_add_87 : decode cX0_add 87 = .ok (.iadd, 1) := by decide +kernel
theorem dX0_add_88 : decode cX0_add 88 = .ok (.putfield 36, 3) := by decide +kernel
theorem dX0_add_91 : decode cX0_add 91 = .ok (.iload 4, 2) := by decide +kernel
theorem dX0_add_93 : decode cX0_add 93 = .ok (.ireturn, 1) := by decide +kernel
set_option maxRecDepth 20000 in
theorem ggX0_give_X0_has : GoodIn wsX0_give wsX0_has := goodIn_r _ [8, 9, 10, 11, 12, 13, 14, 15, 16, 17, 18] (by decide +kernel) (by decide +kernel)
set_option maxRecDepth 20000 in
theorem gX0_give_X0_has : GoodIn wsX0_give (wsV RX0 46 RX0 yX0_has wsX0_has) := goodIn_app (goodIn_of _ (by decide +kernel)) ggX0_give_X0_has
theorem dX0_give_0 : decode cX0_give 0 = .ok (.iload_n 2, 1) := by decide +kernel
theorem dX0_give_1 : decode cX0_give 1 = .ok (.bipush (-9), 2) := by decide +kernel
theorem dX0_give_3 : decode cX0_give 3 = .ok (.if_icmp .eq 11, 3) := by decide +kernel
theorem dX0_give_6 : decode cX0_give 6 = .ok (.aload_n 0, 1) := by decide +kernel
theorem dX0_give_7 : decode cX0_give 7 = .ok (.iload_n 1, 1) := by decide +kernel
theorem dX0_give_8 : decode cX0_give 8 = .ok (.invokevirtual 46, 3) := by decide +kernel
theorem dX0_give_11 : decode cX0_give 11 = .ok (.ifCond .ne 4, 3) := by decide +kernel
theorem dX0_give_14 : decode cX0_give 14 = .ok (.return_, 1) := by decide +kernel
theorem dX0_give_15 : decode cX0_give 15 = .ok (.aload_n 0, 1) := by decide +kernel
theorem dX0_give_16 : decode cX0_give 16 = .ok (.getfield 18, 3) := by decide +kernel
theorem dX0_give_19 : decode cX0_give 19 = .ok (.iload_n 1, 1) := by decide +kernel
theorem dX0_give_20 : decode cX0_give 20 = .ok (.iconst 1, 1) := by decide +kernel
theorem dX0_give_21 : decode cX0_give 21 = .ok (.iastore, 1) := by decide +kernel
theorem dX0_give_22 : decode cX0_give 22 = .ok (.aload_n 0, 1) := by decide +kernel
theorem dX0_give_23 : decode cX0_give 23 = .ok (.getfield 21, 3) := by decide +kernel
theorem dX0_give_26 : decode cX0_give 26 = .ok (.iload_n 1, 1) := by decide +kernel
theorem dX0_give_27 : decode cX0_give 27 = .ok (.iload_n 2, 1) := by decide +kernel
theorem dX0_give_28 : decode cX0_give 28 = .ok (.iastore, 1) := by decide +kernel
theorem dX0_give_29 : decode cX0_give 29 = .ok (.aload_n 0, 1) := by decide +kernel
theorem dX0_give_30 : decode cX0_give 30 = .ok (.getfield 33, 3) := by decide +kernel
theorem dX0_give_33 : decode cX0_give 33 = .ok (.iload_n 1, 1) := by decide +kernel
theorem dX0_give_34 : decode cX0_give 34 = .ok (.dup2, 1) := by decide +kernel
theorem dX0_give_35 : decode cX0_give 35 = .ok (.iaload, 1) := by decide +kernel
theorem dX0_give_36 : decode cX0_give 36 = .ok (.iconst 1, 1) := by decide +kernel
theorem dX0_give_37 : decode cX0_give 37 = .ok (.iadd, 1) := by decide +kernel
theorem dX0_give_38 : decode cX0_give 38 = .ok (.iastore, 1) := by decide +kernel
theorem dX0_give_39 : decode cX0_give 39 = .ok (.return_, 1) := by decide +kernel
theorem dX0_rides_0 : decode cX0_rides 0 = .ok (.aload_n 0, 1) := by decide +kernel
theorem dX0_rides_1 : decode cX0_rides 1 = .ok (.getfield 18, 3) := by decide +kernel
theorem dX0_rides_4 : decode cX0_rides 4 = .ok (.iload_n 1, 1) := by decide +kernel
theorem dX0_rides_5 : decode cX0_rides 5 = .ok (.iaload, 1) := by decide +kernel
theorem dX0_rides_6 : decode cX0_rides 6 = .ok (.iconst 2, 1) := by decide +kernel
theorem dX0_rides_7 : decode cX0_rides 7 = .ok (.if_icmp .ne 17, 3) := by decide +kernel
theorem dX0_rides_10 : decode cX0_rides 10 = .ok (.aload_n 0, 1) := by decide +kernel
theorem dX0_rides_11 : decode cX0_rides 11 = .ok (.getfield 21, 3) := by decide +kernel
theorem dX0_rides_14 : decode cX0_rides 14 = .ok (.iload_n 1, 1) := by decide +kernel
theorem dX0_rides_15 : decode cX0_rides 15 = .ok (.iaload, 1) := by decide +kernel
theorem dX0_rides_16 : decode cX0_rides 16 = .ok (.iload_n 2, 1) := by decide +kernel
theorem dX0_rides_17 : decode cX0_rides 17 = .ok (.if_icmp .ne 7, 3) := by decide +kernel
theorem dX0_rides_20 : decode cX0_rides 20 = .ok (.iconst 1, 1) := by decide +kernel
theorem dX0_rides_21 : decode cX0_rides 21 = .ok (.goto 4, 3) := by decide +kernel
theorem dX0_rides_24 : decode cX0_rides 24 = .ok (.iconst 0, 1) := by decide +kernel
theorem dX0_rides_25 : decode cX0_rides 25 = .ok (.ireturn, 1) := by decide +kernel
theorem dX0_waitsFor_0 : decode cX0_waitsFor 0 = .ok (.aload_n 0, 1) := by decide +kernel
theorem dX0_waitsFor_1 : decode cX0_waitsFor 1 = .ok (.getfield 18, 3) := by decide +kernel
theorem dX0_waitsFor_4 : decode cX0_waitsFor 4 = .ok (.iload_n 1, 1) := by decide +kernel
theorem dX0_waitsFor_5 : decode cX0_waitsFor 5 = .ok (.iaload, 1) := by decide +kernel
theorem dX0_waitsFor_6 : decode cX0_waitsFor 6 = .ok (.iconst 1, 1) := by decide +kernel
theorem dX0_waitsFor_7 : decode cX0_waitsFor 7 = .ok (.if_icmp .ne 17, 3) := by decide +kernel
theorem dX0_waitsFor_10 : decode cX0_waitsFor 10 = .ok (.aload_n 0, 1) := by decide +kernel
theorem dX0_waitsFor_11 : decode cX0_waitsFor 11 = .ok (.getfield 21, 3) := by decide +kernel
theorem dX0_waitsFor_14 : decode cX0_waitsFor 14 = .ok (.iload_n 1, 1) := by decide +kernel
theorem dX0_waitsFor_15 : decode cX0_waitsFor 15 = .ok (.iaload, 1) := by decide +kernel
theorem dX0_waitsFor_16 : decode cX0_waitsFor 16 = .ok (.iload_n 2, 1) := by decide +kernel
theorem dX0_waitsFor_17 : decode cX0_waitsFor 17 = .ok (.if_icmp .ne 7, 3) := by decide +kernel
theorem dX0_waitsFor_20 : decode cX0_waitsFor 20 = .ok (.iconst 1, 1) := by decide +kernel
theorem dX0_waitsFor_21 : decode cX0_waitsFor 21 = .ok (.goto 4, 3) := by decide +kernel
theorem dX0_waitsFor_24 : decode cX0_waitsFor 24 = .ok (.iconst 0, 1) := by decide +kernel
theorem dX0_waitsFor_25 : decode cX0_waitsFor 25 = .ok (.ireturn, 1) := by decide +kernel
theorem dX0_numberIn_0 : decode cX0_numberIn 0 = .ok (.iconst 0, 1) := by decide +kernel
theorem dX0_numberIn_1 : decode cX0_numberIn 1 = .ok (.istore_n 2, 1) := by decide +kernel
theorem dX0_numberIn_2 : decode cX0_numberIn 2 = .ok (.iconst 0, 1) := by decide +kernel
theorem dX0_numberIn_3 : decode cX0_numberIn 3 = .ok (.istore_n 3, 1) := by decide +kernel
theorem dX0_numberIn_4 : decode cX0_numberIn 4 = .ok (.iload_n 3, 1) := by decide +kernel
theorem dX0_numberIn_5 : decode cX0_numberIn 5 = .ok (.aload_n 0, 1) := by decide +kernel
theorem dX0_numberIn_6 : decode cX0_numberIn 6 = .ok (.getfield 36, 3) := by decide +kernel
theorem dX0_numberIn_9 : decode cX0_numberIn 9 = .ok (.if_icmp .ge 22, 3) := by decide +kernel
theorem dX0_numberIn_12 : decode cX0_numberIn 12 = .ok (.aload_n 0, 1) := by decide +kernel
theorem dX0_numberIn_13 : decode cX0_numberIn 13 = .ok (.getfield 18, 3) := by decide +kernel
theorem dX0_numberIn_16 : decode cX0_numberIn 16 = .ok (.iload_n 3, 1) := by decide +kernel
theorem dX0_numberIn_17 : decode cX0_numberIn 17 = .ok (.iaload, 1) := by decide +kernel
theorem dX0_numberIn_18 : decode cX0_numberIn 18 = .ok (.iload_n 1, 1) := by decide +kernel
theorem dX0_numberIn_19 : decode cX0_numberIn 19 = .ok (.if_icmp .ne 6, 3) := by decide +kernel
theorem dX0_numberIn_22 : decode cX0_numberIn 22 = .ok (.iinc 2 1, 3) := by decide +kernel
theorem dX0_numberIn_25 : decode cX0_numberIn 25 = .ok (.iinc 3 1, 3) := by decide +kernel
theorem dX0_numberIn_28 : decode cX0_numberIn 28 = .ok (.goto (-24), 3) := by decide +kernel
theorem dX0_numberIn_31 : decode cX0_numberIn 31 = .ok (.iload_n 2, 1) := by decide +kernel
theorem dX0_numberIn_32 : decode cX0_numberIn 32 = .ok (.ireturn, 1) := by decide +kernel
theorem dX0_numberOf_0 : decode cX0_numberOf 0 = .ok (.iconst 0, 1) := by decide +kernel
theorem dX0_numberOf_1 : decode cX0_numberOf 1 = .ok (.istore_n 3, 1) := by decide +kernel
theorem dX0_numberOf_2 : decode cX0_numberOf 2 = .ok (.iconst 0, 1) := by decide +kernel
theorem dX0_numberOf_3 : decode cX0_numberOf 3 = .ok (.istore 4, 2) := by decide +kernel
theorem dX0_numberOf_5 : decode cX0_numberOf 5 = .ok (.iload 4, 2) := by decide +kernel
theorem dX0_numberOf_7 : decode cX0_numberOf 7 = .ok (.aload_n 0, 1) := by decide +kernel
theorem dX0_numberOf_8 : decode cX0_numberOf 8 = .ok (.getfield 36, 3) := by decide +kernel
theorem dX0_numberOf_11 : decode cX0_numberOf 11 = .ok (.if_icmp .ge 34, 3) := by decide +kernel
theorem dX0_numberOf_14 : decode cX0_numberOf 14 = .ok (.aload_n 0, 1) := by decide +kernel
theorem dX0_numberOf_15 : decode cX0_numberOf 15 = .ok (.getfield 18, 3) := by decide +kernel
theorem dX0_numberOf_18 : decode cX0_numberOf 18 = .ok (.iload 4, 2) := by decide +kernel
theorem dX0_numberOf_20 : decode cX0_numberOf 20 = .ok (.iaload, 1) := by decide +kernel
theorem dX0_numberOf_21 : decode cX0_numberOf 21 = .ok (.iload_n 2, 1) := by decide +kernel
theorem dX0_numberOf_22 : decode cX0_numberOf 22 = .ok (.if_icmp .ne 17, 3) := by decide +kernel
theorem dX0_numberOf_25 : decode cX0_numberOf 25 = .ok (.aload_n 0, 1) := by decide +kernel
theorem dX0_numberOf_26 : decode cX0_numberOf 26 = .ok (.getfield 21, 3) := by decide +kernel
theorem dX0_numberOf_29 : decode cX0_numberOf 29 = .ok (.iload 4, 2) := by decide +kernel
theorem dX0_numberOf_31 : decode cX0_numberOf 31 = .ok (.iaload, 1) := by decide +kernel
theorem dX0_numberOf_32 : decode cX0_numberOf 32 = .ok (.iload_n 1, 1) := by decide +kernel
theorem dX0_numberOf_33 : decode cX0_numberOf 33 = .ok (.if_icmp .ne 6, 3) := by decide +kernel
theorem dX0_numberOf_36 : decode cX0_numberOf 36 = .ok (.iinc 3 1, 3) := by decide +kernel
theorem dX0_numberOf_39 : decode cX0_numberOf 39 = .ok (.iinc 4 1, 3) := by decide +kernel
theorem dX0_numberOf_42 : decode cX0_numberOf 42 = .ok (.goto (-37), 3) := by decide +kernel
theorem dX0_numberOf_45 : decode cX0_numberOf 45 = .ok (.iload_n 3, 1) := by decide +kernel
theorem dX0_numberOf_46 : decode cX0_numberOf 46 = .ok (.ireturn, 1) := by decide +kernel
set_option maxRecDepth 20000 in
theorem ggX0_numberWith_X0_numberOf : GoodIn wsX0_numberWith wsX0_numberOf := goodIn_r _ [5, 6, 7, 8, 9, 10, 11, 12, 13, 14, 15, 16, 17] (by decide +kernel) (by decide +kernel)
set_option maxRecDepth 20000 in
theorem gX0_numberWith_X0_numberOf : GoodIn wsX0_numberWith (wsV RX0 50 RX0 yX0_numberOf wsX0_numberOf) := goodIn_app (goodIn_of _ (by decide +kernel)) ggX0_numberWith_X0_numberOf
theorem dX0_numberWith_0 : decode cX0_numberWith 0 = .ok (.aload_n 0, 1) := by decide +kernel
theorem dX0_numberWith_1 : decode cX0_numberWith 1 = .ok (.iload_n 1, 1) := by decide +kernel
theorem dX0_numberWith_2 : decode cX0_numberWith 2 = .ok (.iconst 1, 1) := by decide +kernel
theorem dX0_numberWith_3 : decode cX0_numberWith 3 = .ok (.invokevirtual 50, 3) := by decide +kernel
theorem dX0_numberWith_6 : decode cX0_numberWith 6 = .ok (.aload_n 0, 1) := by decide +kernel
theorem dX0_numberWith_7 : decode cX0_numberWith 7 = .ok (.iload_n 1, 1) := by decide +kernel
theorem dX0_numberWith_8 : decode cX0_numberWith 8 = .ok (.iconst 2, 1) := by decide +kernel
theorem dX0_numberWith_9 : decode cX0_numberWith 9 = .ok (.invokevirtual 50, 3) := by decide +kernel
theorem dX0_numberWith_12 : decode cX0_numberWith 12 = .ok (.iadd, 1) := by decide +kernel
theorem dX0_numberWith_13 : decode cX0_numberWith 13 = .ok (.ireturn, 1) := by decide +kernel
set_option maxRecDepth 20000 in
theorem ggX0_stopsOf_X0_waitsFor : GoodIn wsX0_stopsOf wsX0_waitsFor := goodIn_r _ [8, 9, 10, 15, 16, 17, 18, 19, 20, 21, 22, 23] (by decide +kernel) (by decide +kernel)
set_option maxRecDepth 20000 in
theorem gX0_stopsOf_X0_waitsFor : GoodIn wsX0_stopsOf (wsV RX0 54 RX0 yX0_waitsFor wsX0_waitsFor) := goodIn_app (goodIn_of _ (by decide +kernel)) ggX0_stopsOf_X0_waitsFor
set_option maxRecDepth 20000 in
theorem ggX0_stopsOf_X0_rides : GoodIn wsX0_stopsOf wsX0_rides := goodIn_r _ [14, 9, 10, 15, 16, 17, 18, 19, 20, 21, 22, 23] (by decide +kernel) (by decide +kernel)
set_option maxRecDepth 20000 in
theorem gX0_stopsOf_X0_rides : GoodIn wsX0_stopsOf (wsV RX0 58 RX0 yX0_rides wsX0_rides) := goodIn_app (goodIn_of _ (by decide +kernel)) ggX0_stopsOf_X0_rides
theorem dX0_stopsOf_0 : decode cX0_stopsOf 0 = .ok (.iconst 0, 1) := by decide +kernel
theorem dX0_stopsOf_1 : decode cX0_stopsOf 1 = .ok (.istore_n 2, 1) := by decide +kernel
theorem dX0_stopsOf_2 : decode cX0_stopsOf 2 = .ok (.iconst 0, 1) := by decide +kernel
theorem dX0_stopsOf_3 : decode cX0_stopsOf 3 = .ok (.istore_n 3, 1) := by decide +kernel
theorem dX0_stopsOf_4 : decode cX0_stopsOf 4 = .ok (.iload_n 3, 1) := by decide +kernel
theorem dX0_stopsOf_5 : decode cX0_stopsOf 5 = .ok (.aload_n 0, 1) := by decide +kernel
theorem dX0_stopsOf_6 : decode cX0_stopsOf 6 = .ok (.getfield 36, 3) := by decide +kernel
theorem dX0_stopsOf_9 : decode cX0_stopsOf 9 = .ok (.if_icmp .ge 61, 3) := by decide +kernel
theorem dX0_stopsOf_12 : decode cX0_stopsOf 12 = .ok (.aload_n 0, 1) := by decide +kernel
theorem dX0_stopsOf_13 : decode cX0_stopsOf 13 = .ok (.iload_n 3, 1) := by decide +kernel
theorem dX0_stopsOf_14 : decode cX0_stopsOf 14 = .ok (.iload_n 1, 1) := by decide +kernel
theorem dX0_stopsOf_15 : decode cX0_stopsOf 15 = .ok (.invokevirtual 54, 3) := by decide +kernel
theorem dX0_stopsOf_18 : decode cX0_stopsOf 18 = .ok (.ifCond .eq 26, 3) := by decide +kernel
theorem dX0_stopsOf_21 : decode cX0_stopsOf 21 = .ok (.iload_n 2, 1) := by decide +kernel
theorem dX0_stopsOf_22 : decode cX0_stopsOf 22 = .ok (.iconst 1, 1) := by decide +kernel
theorem dX0_stopsOf_23 : decode cX0_stopsOf 23 = .ok (.aload_n 0, 1) := by decide +kernel
theorem dX0_stopsOf_24 : decode cX0_stopsOf 24 = .ok (.getfield 9, 3) := by decide +kernel
theorem dX0_stopsOf_27 : decode cX0_stopsOf 27 = .ok (.iload_n 3, 1) := by decide +kernel
theorem dX0_stopsOf_28 : decode cX0_stopsOf 28 = .ok (.iaload, 1) := by decide +kernel
theorem dX0_stopsOf_29 : decode cX0_stopsOf 29 = .ok (.ishl, 1) := by decide +kernel
theorem dX0_stopsOf_30 : decode cX0_stopsOf 30 = .ok (.iconst 1, 1) := by decide +kernel
theorem dX0_stopsOf_31 : decode cX0_stopsOf 31 = .ok (.aload_n 0, 1) := by decide +kernel
theorem dX0_stopsOf_32 : decode cX0_stopsOf 32 = .ok (.getfield 15, 3) := by decide +kernel
theorem dX0_stopsOf_35 : decode cX0_stopsOf 35 = .ok (.iload_n 3, 1) := by decide +kernel
theorem dX0_stopsOf_36 : decode cX0_stopsOf 36 = .ok (.iaload, 1) := by decide +kernel
theorem dX0_stopsOf_37 : decode cX0_stopsOf 37 = .ok (.ishl, 1) := by decide +kernel
theorem dX0_stopsOf_38 : decode cX0_stopsOf 38 = .ok (.ior, 1) := by decide +kernel
theorem dX0_stopsOf_39 : decode cX0_stopsOf 39 = .ok (.ior, 1) := by decide +kernel
theorem dX0_stopsOf_40 : decode cX0_stopsOf 40 = .ok (.istore_n 2, 1) := by decide +kernel
theorem dX0_stopsOf_41 : decode cX0_stopsOf 41 = .ok (.goto 23, 3) := by decide +kernel
theorem dX0_stopsOf_44 : decode cX0_stopsOf 44 = .ok (.aload_n 0, 1) := by decide +kernel
theorem dX0_stopsOf_45 : decode cX0_stopsOf 45 = .ok (.iload_n 3, 1) := by decide +kernel
theorem dX0_stopsOf_46 : decode cX0_stopsOf 46 = .ok (.iload_n 1, 1) := by decide +kernel
theorem dX0_stopsOf_47 : decode cX0_stopsOf 47 = .ok (.invokevirtual 58, 3) := by decide +kernel
theorem dX0_stopsOf_50 : decode cX0_stopsOf 50 = .ok (.ifCond .eq 14, 3) := by decide +kernel
theorem dX0_stopsOf_53 : decode cX0_stopsOf 53 = .ok (.iload_n 2, 1) := by decide +kernel
theorem dX0_stopsOf_54 : decode cX0_stopsOf 54 = .ok (.iconst 1, 1) := by decide +kernel
theorem dX0_stopsOf_55 : decode cX0_stopsOf 55 = .ok (.aload_n 0, 1) := by decide +kernel
theorem dX0_stopsOf_56 : decode cX0_stopsOf 56 = .ok (.getfield 15, 3) := by decide +kernel
theorem dX0_stopsOf_59 : decode cX0_stopsOf 59 = .ok (.iload_n 3, 1) := by decide +kernel
theorem dX0_stopsOf_60 : decode cX0_stopsOf 60 = .ok (.iaload, 1) := by decide +kernel
theorem dX0_stopsOf_61 : decode cX0_stopsOf 61 = .ok (.ishl, 1) := by decide +kernel
theorem dX0_stopsOf_62 : decode cX0_stopsOf 62 = .ok (.ior, 1) := by decide +kernel
theorem dX0_stopsOf_63 : decode cX0_stopsOf 63 = .ok (.istore_n 2, 1) := by decide +kernel
theorem dX0_stopsOf_64 : decode cX0_stopsOf 64 = .ok (.iinc 3 1, 3) := by decide +kernel
theorem dX0_stopsOf_67 : decode cX0_stopsOf 67 = .ok (.goto (-63), 3) := by decide +kernel
theorem dX0_stopsOf_70 : decode cX0_stopsOf 70 = .ok (.iload_n 2, 1) := by decide +kernel
theorem dX0_stopsOf_71 : decode cX0_stopsOf 71 = .ok (.ireturn, 1) := by decide +kernel
set_option maxRecDepth 20000 in
theorem ggX0_aimOf_X0_rides : GoodIn wsX0_aimOf wsX0_rides := goodIn_r _ [8, 9, 10, 22, 23, 24, 25, 26, 27, 28, 29, 30] (by decide +kernel) (by decide +kernel)
set_option maxRecDepth 20000 in
theorem gX0_aimOf_X0_rides : GoodIn wsX0_aimOf (wsV RX0 58 RX0 yX0_rides wsX0_rides) := goodIn_app (goodIn_of _ (by decide +kernel)) ggX0_aimOf_X0_rides
set_option maxRecDepth 20000 in
theorem ggX0_aimOf_X0_isNearer : GoodIn wsX0_aimOf wsX0_isNearer := goodIn_r _ [13, 14, 15, 16, 17] (by decide +kernel) (by decide +kernel)
set_option maxRecDepth 20000 in
theorem gX0_aimOf_X0_isNearer : GoodIn wsX0_aimOf (va_wsS RX0 61 yX0_isNearer wsX0_isNearer) := goodIn_app (goodIn_of _ (by decide +kernel)) ggX0_aimOf_X0_isNearer
set_option maxRecDepth 20000 in
theorem ggX0_aimOf_X0_waitsFor : GoodIn wsX0_aimOf wsX0_waitsFor := goodIn_r _ [21, 9, 10, 22, 23, 24, 25, 26, 27, 28, 29, 30] (by decide +kernel) (by decide +kernel)
set_option maxRecDepth 20000 in
theorem gX0_aimOf_X0_waitsFor : GoodIn wsX0_aimOf (wsV RX0 54 RX0 yX0_waitsFor wsX0_waitsFor) := goodIn_app (goodIn_of _ (by decide +kernel)) ggX0_aimOf_X0_waitsFor
theorem dX0_aimOf_0 : decode cX0_aimOf 0 = .ok (.bipush (-9), 2) := by decide +kernel
theorem dX0_aimOf_2 : decode cX0_aimOf 2 = .ok (.istore_n 3, 1) := by decide +kernel
theorem dX0_aimOf_3 : decode cX0_aimOf 3 = .ok (.bipush (-9), 2) := by decide +kernel
theorem dX0_aimOf_5 : decode cX0_aimOf 5 = .ok (.istore 4, 2) := by decide +kernel
theorem dX0_aimOf_7 : decode cX0_aimOf 7 = .ok (.iconst 0, 1) := by decide +kernel
theorem dX0_aimOf_8 : decode cX0_aimOf 8 = .ok (.istore 5, 2) := by decide +kernel
theorem dX0_aimOf_10 : decode cX0_aimOf 10 = .ok (.iload 5, 2) := by decide +kernel
theorem dX0_aimOf_12 : decode cX0_aimOf 12 = .ok (.aload_n 0, 1) := by decide +kernel
theorem dX0_aimOf_13 : decode cX0_aimOf 13 = .ok (.getfield 36, 3) := by decide +kernel
theorem dX0_aimOf_16 : decode cX0_aimOf 16 = .ok (.if_icmp .ge 77, 3) := by decide +kernel
theorem dX0_aimOf_19 : decode cX0_aimOf 19 = .ok (.aload_n 0, 1) := by decide +kernel
theorem dX0_aimOf_20 : decode cX0_aimOf 20 = .ok (.iload 5, 2) := by decide +kernel
theorem dX0_aimOf_22 : decode cX0_aimOf 22 = .ok (.iload_n 1, 1) := by decide +kernel
theorem dX0_aimOf_23 : decode cX0_aimOf 23 = .ok (.invokevirtual 58, 3) := by decide +kernel
theorem dX0_aimOf_26 : decode cX0_aimOf 26 = .ok (.ifCond .eq 35, 3) := by decide +kernel
theorem dX0_aimOf_29 : decode cX0_aimOf 29 = .ok (.iload_n 3, 1) := by decide +kernel
theorem dX0_aimOf_30 : decode cX0_aimOf 30 = .ok (.bipush (-9), 2) := by decide +kernel
theorem dX0_aimOf_32 : decode cX0_aimOf 32 = .ok (.if_icmp .eq 18, 3) := by decide +kernel
theorem dX0_aimOf_35 : decode cX0_aimOf 35 = .ok (.aload_n 0, 1) := by decide +kernel
theorem dX0_aimOf_36 : decode cX0_aimOf 36 = .ok (.getfield 15, 3) := by decide +kernel
theorem dX0_aimOf_39 : decode cX0_aimOf 39 = .ok (.iload 5, 2) := by decide +kernel
theorem dX0_aimOf_41 : decode cX0_aimOf 41 = .ok (.iaload, 1) := by decide +kernel
theorem dX0_aimOf_42 : decode cX0_aimOf 42 = .ok (.iload_n 3, 1) := by decide +kernel
theorem dX0_aimOf_43 : decode cX0_aimOf 43 = .ok (.iload_n 2, 1) := by decide +kernel
theorem dX0_aimOf_44 : decode cX0_aimOf 44 = .ok (.invokestatic 61, 3) := by decide +kernel
theorem dX0_aimOf_47 : decode cX0_aimOf 47 = .ok (.ifCond .eq 40, 3) := by decide +kernel
theorem dX0_aimOf_50 : decode cX0_aimOf 50 = .ok (.aload_n 0, 1) := by decide +kernel
theorem dX0_aimOf_51 : decode cX0_aimOf 51 = .ok (.getfield 15, 3) := by decide +kernel
theorem dX0_aimOf_54 : decode cX0_aimOf 54 = .ok (.iload 5, 2) := by decide +kernel
theorem dX0_aimOf_56 : decode cX0_aimOf 56 = .ok (.iaload, 1) := by decide +kernel
theorem dX0_aimOf_57 : decode cX0_aimOf 57 = .ok (.istore_n 3, 1) := by decide +kernel
theorem dX0_aimOf_58 : decode cX0_aimOf 58 = .ok (.goto 29, 3) := by decide +kernel
theorem dX0_aimOf_61 : decode cX0_aimOf 61 = .ok (.iload 4, 2) := by decide +kernel
theorem dX0_aimOf_63 : decode cX0_aimOf 63 = .ok (.bipush (-9), 2) := by decide +kernel
theorem dX0_aimOf_65 : decode cX0_aimOf 65 = .ok (.if_icmp .ne 22, 3) := by decide +kernel
theorem dX0_aimOf_68 : decode cX0_aimOf 68 = .ok (.aload_n 0, 1) := by decide +kernel
theorem dX0_aimOf_69 : decode cX0_aimOf 69 = .ok (.iload 5, 2) := by decide +kernel
theorem dX0_aimOf_71 : decode cX0_aimOf 71 = .ok (.iload_n 1, 1) := by decide +kernel
theorem dX0_aimOf_72 : decode cX0_aimOf 72 = .ok (.invokevirtual 54, 3) := by decide +kernel
theorem dX0_aimOf_75 : decode cX0_aimOf 75 = .ok (.ifCond .eq 12, 3) := by decide +kernel
theorem dX0_aimOf_78 : decode cX0_aimOf 78 = .ok (.aload_n 0, 1) := by decide +kernel
theorem dX0_aimOf_79 : decode cX0_aimOf 79 = .ok (.getfield 9, 3) := by decide +kernel
theorem dX0_aimOf_82 : decode cX0_aimOf 82 = .ok (.iload 5, 2) := by decide +kernel
theorem dX0_aimOf_84 : decode cX0_aimOf 84 = .ok (.iaload, 1) := by decide +kernel
theorem dX0_aimOf_85 : decode cX0_aimOf 85 = .ok (.istore 4, 2) := by decide +kernel
theorem dX0_aimOf_87 : decode cX0_aimOf 87 = .ok (.iinc 5 1, 3) := by decide +kernel
theorem dX0_aimOf_90 : decode cX0_aimOf 90 = .ok (.goto (-80), 3) := by decide +kernel
theorem dX0_aimOf_93 : decode cX0_aimOf 93 = .ok (.iload_n 3, 1) := by decide +kernel
theorem dX0_aimOf_94 : decode cX0_aimOf 94 = .ok (.bipush (-9), 2) := by decide +kernel
theorem dX0_aimOf_96 : decode cX0_aimOf 96 = .ok (.if_icmp .eq 7, 3) := by decide +kernel
theorem dX0_aimOf_99 : decode cX0_aimOf 99 = .ok (.iload_n 3, 1) := by decide +kernel
theorem dX0_aimOf_100 : decode cX0_aimOf 100 = .ok (.goto 5, 3) := by decide +kernel
theorem dX0_aimOf_103 : decode cX0_aimOf 103 = .ok (.iload 4, 2) := by decide +kernel
theorem dX0_aimOf_105 : decode cX0_aimOf 105 = .ok (.ireturn, 1) := by decide +kernel
theorem dX0_isNearer_0 : decode cX0_isNearer 0 = .ok (.iload_n 0, 1) := by decide +kernel
theorem dX0_isNearer_1 : decode cX0_isNearer 1 = .ok (.iload_n 2, 1) := by decide +kernel
theorem dX0_isNearer_2 : decode cX0_isNearer 2 = .ok (.isub, 1) := by decide +kernel
theorem dX0_isNearer_3 : decode cX0_isNearer 3 = .ok (.invokestatic 65, 3) := by decide +kernel
theorem dX0_isNearer_6 : decode cX0_isNearer 6 = .ok (.istore_n 3, 1) := by decide +kernel
theorem dX0_isNearer_7 : decode cX0_isNearer 7 = .ok (.iload_n 1, 1) := by decide +kernel
theorem dX0_isNearer_8 : decode cX0_isNearer 8 = .ok (.iload_n 2, 1) := by decide +kernel
theorem dX0_isNearer_9 : decode cX0_isNearer 9 = .ok (.isub, 1) := by decide +kernel
theorem dX0_isNearer_10 : decode cX0_isNearer 10 = .ok (.invokestatic 65, 3) := by decide +kernel
theorem dX0_isNearer_13 : decode cX0_isNearer 13 = .ok (.istore 4, 2) := by decide +kernel
theorem dX0_isNearer_15 : decode cX0_isNearer 15 = .ok (.iload_n 3, 1) := by decide +kernel
theorem dX0_isNearer_16 : decode cX0_isNearer 16 = .ok (.iload 4, 2) := by decide +kernel
theorem dX0_isNearer_18 : decode cX0_isNearer 18 = .ok (.if_icmp .lt 14, 3) := by decide +kernel
theorem dX0_isNearer_21 : decode cX0_isNearer 21 = .ok (.iload_n 3, 1) := by decide +kernel
theorem dX0_isNearer_22 : decode cX0_isNearer 22 = .ok (.iload 4, 2) := by decide +kernel
theorem dX0_isNearer_24 : decode cX0_isNearer 24 = .ok (.if_icmp .ne 12, 3) := by decide +kernel
theorem dX0_isNearer_27 : decode cX0_isNearer 27 = .ok (.iload_n 0, 1) := by decide +kernel
theorem dX0_isNearer_28 : decode cX0_isNearer 28 = .ok (.iload_n 1, 1) := by decide +kernel
theorem dX0_isNearer_29 : decode cX0_isNearer 29 = .ok (.if_icmp .ge 7, 3) := by decide +kernel
theorem dX0_isNearer_32 : decode cX0_isNearer 32 = .ok (.iconst 1, 1) := by decide +kernel
theorem dX0_isNearer_33 : decode cX0_isNearer 33 = .ok (.goto 4, 3) := by decide +kernel
theorem dX0_isNearer_36 : decode cX0_isNearer 36 = .ok (.iconst 0, 1) := by decide +kernel
theorem dX0_isNearer_37 : decode cX0_isNearer 37 = .ok (.ireturn, 1) := by decide +kernel
set_option maxRecDepth 20000 in
theorem ggX0_letOut_X0_rides : GoodIn wsX0_letOut wsX0_rides := goodIn_r _ [9, 3, 10, 11, 12, 13, 14, 15, 16, 17, 18, 19] (by decide +kernel) (by decide +kernel)
set_option maxRecDepth 20000 in
theorem gX0_letOut_X0_rides : GoodIn wsX0_letOut (wsV RX0 58 RX0 yX0_rides wsX0_rides) := goodIn_app (goodIn_of _ (by decide +kernel)) ggX0_letOut_X0_rides
theorem dX0_letOut_0 : decode cX0_letOut 0 = .ok (.iconst 0, 1) := by decide +kernel
theorem dX0_letOut_1 : decode cX0_letOut 1 = .ok (.istore 4, 2) := by decide +kernel
theorem dX0_letOut_3 : decode cX0_letOut 3 = .ok (.iconst 0, 1) := by decide +kernel
theorem dX0_letOut_4 : decode cX0_letOut 4 = .ok (.istore 5, 2) := by decide +kernel
theorem dX0_letOut_6 : decode cX0_letOut 6 = .ok (.iload 5, 2) := by decide +kernel
theorem dX0_letOut_8 : decode cX0_letOut 8 = .ok (.aload_n 0, 1) := by decide +kernel
theorem dX0_letOut_9 : decode cX0_letOut 9 = .ok (.getfield 36, 3) := by decide +kernel
theorem dX0_letOut_12 : decode cX0_letOut 12 = .ok (.if_icmp .ge 49, 3) := by decide +kernel
theorem dX0_letOut_15 : decode cX0_letOut 15 = .ok (.aload_n 0, 1) := by decide +kernel
theorem dX0_letOut_16 : decode cX0_letOut 16 = .ok (.iload 5, 2) := by decide +kernel
theorem dX0_letOut_18 : decode cX0_letOut 18 = .ok (.iload_n 1, 1) := by decide +kernel
theorem dX0_letOut_19 : decode cX0_letOut 19 = .ok (.invokevirtual 58, 3) := by decide +kernel
theorem dX0_letOut_22 : decode cX0_letOut 22 = .ok (.ifCond .eq 33, 3) := by decide +kernel
theorem dX0_letOut_25 : decode cX0_letOut 25 = .ok (.aload_n 0, 1) := by decide +kernel
theorem dX0_letOut_26 : decode cX0_letOut 26 = .ok (.getfield 15, 3) := by decide +kernel
theorem dX0_letOut_29 : decode cX0_letOut 29 = .ok (.iload 5, 2) := by decide +kernel
theorem dX0_letOut_31 : decode cX0_letOut 31 = .ok (.iaload, 1) := by decide +kernel
theorem dX0_letOut_32 : decode cX0_letOut 32 = .ok (.iload_n 2, 1) := by decide +kernel
theorem dX0_letOut_33 : decode cX0_letOut 33 = .ok (.if_icmp .ne 22, 3) := by decide +kernel
theorem dX0_letOut_36 : decode cX0_letOut 36 = .ok (.aload_n 0, 1) := by decide +kernel
theorem dX0_letOut_37 : decode cX0_letOut 37 = .ok (.getfield 18, 3) := by decide +kernel
theorem dX0_letOut_40 : decode cX0_letOut 40 = .ok (.iload 5, 2) := by decide +kernel
theorem dX0_letOut_42 : decode cX0_letOut 42 = .ok (.iconst 3, 1) := by decide +kernel
theorem dX0_letOut_43 : decode cX0_letOut 43 = .ok (.iastore, 1) := by decide +kernel
theorem dX0_letOut_44 : decode cX0_letOut 44 = .ok (.aload_n 0, 1) := by decide +kernel
theorem dX0_letOut_45 : decode cX0_letOut 45 = .ok (.getfield 30, 3) := by decide +kernel
theorem dX0_letOut_48 : decode cX0_letOut 48 = .ok (.iload 5, 2) := by decide +kernel
theorem dX0_letOut_50 : decode cX0_letOut 50 = .ok (.iload_n 3, 1) := by decide +kernel
theorem dX0_letOut_51 : decode cX0_letOut 51 = .ok (.iastore, 1) := by decide +kernel
theorem dX0_letOut_52 : decode cX0_letOut 52 = .ok (.iinc 4 1, 3) := by decide +kernel
theorem dX0_letOut_55 : decode cX0_letOut 55 = .ok (.iinc 5 1, 3) := by decide +kernel
theorem dX0_letOut_58 : decode cX0_letOut 58 = .ok (.goto (-52), 3) := by decide +kernel
theorem dX0_letOut_61 : decode cX0_letOut 61 = .ok (.iload 4, 2) := by decide +kernel
theorem dX0_letOut_63 : decode cX0_letOut 63 = .ok (.ireturn, 1) := by decide +kernel
set_option maxRecDepth 20000 in
theorem ggX0_takeIn_X0_numberOf : GoodIn wsX0_takeIn wsX0_numberOf := goodIn_r _ [9, 1, 3, 10, 15, 16, 17, 18, 19, 20, 21, 22, 23] (by decide +kernel) (by decide +kernel)
set_option maxRecDepth 20000 in
theorem gX0_takeIn_X0_numberOf : GoodIn wsX0_takeIn (wsV RX0 50 RX0 yX0_numberOf wsX0_numberOf) := goodIn_app (goodIn_of _ (by decide +kernel)) ggX0_takeIn_X0_numberOf
set_option maxRecDepth 20000 in
theorem ggX0_takeIn_X0_waitsFor : GoodIn wsX0_takeIn wsX0_waitsFor := goodIn_r _ [14, 3, 10, 15, 16, 17, 18, 19, 20, 21, 22, 23] (by decide +kernel) (by decide +kernel)
set_option maxRecDepth 20000 in
theorem gX0_takeIn_X0_waitsFor : GoodIn wsX0_takeIn (wsV RX0 54 RX0 yX0_waitsFor wsX0_waitsFor) := goodIn_app (goodIn_of _ (by decide +kernel)) ggX0_takeIn_X0_waitsFor
theorem dX0_takeIn_0 : decode cX0_takeIn 0 = .ok (.iload_n 3, 1) := by decide +kernel
theorem dX0_takeIn_1 : decode cX0_takeIn 1 = .ok (.aload_n 0, 1) := by decide +kernel
theorem dX0_takeIn_2 : decode cX0_takeIn 2 = .ok (.iload_n 1, 1) := by decide +kernel
theorem dX0_takeIn_3 : decode cX0_takeIn 3 = .ok (.iconst 2, 1) := by decide +kernel
theorem dX0_takeIn_4 : decode cX0_takeIn 4 = .ok (.invokevirtual 50, 3) := by decide +kernel
theorem dX0_takeIn_7 : decode cX0_takeIn 7 = .ok (.isub, 1) := by decide +kernel
theorem dX0_takeIn_8 : decode cX0_takeIn 8 = .ok (.istore 5, 2) := by decide +kernel
theorem dX0_takeIn_10 : decode cX0_takeIn 10 = .ok (.iconst 0, 1) := by decide +kernel
theorem dX0_takeIn_11 : decode cX0_takeIn 11 = .ok (.istore 6, 2) := by decide +kernel
theorem dX0_takeIn_13 : decode cX0_takeIn 13 = .ok (.iconst 0, 1) := by decide +kernel
theorem dX0_takeIn_14 : decode cX0_takeIn 14 = .ok (.istore 7, 2) := by decide +kernel
theorem dX0_takeIn_16 : decode cX0_takeIn 16 = .ok (.iload 7, 2) := by decide +kernel
theorem dX0_takeIn_18 : decode cX0_takeIn 18 = .ok (.aload_n 0, 1) := by decide +kernel
theorem dX0_takeIn_19 : decode cX0_takeIn 19 = .ok (.getfield 36, 3) := by decide +kernel
theorem dX0_takeIn_22 : decode cX0_takeIn 22 = .ok (.if_icmp .ge 57, 3) := by decide +kernel
theorem dX0_takeIn_25 : decode cX0_takeIn 25 = .ok (.iload 6, 2) := by decide +kernel
theorem dX0_takeIn_27 : decode cX0_takeIn 27 = .ok (.iload 5, 2) := by decide +kernel
theorem dX0_takeIn_29 : decode cX0_takeIn 29 = .ok (.if_icmp .ge 50, 3) := by decide +kernel
theorem dX0_takeIn_32 : decode cX0_takeIn 32 = .ok (.aload_n 0, 1) := by decide +kernel
theorem dX0_takeIn_33 : decode cX0_takeIn 33 = .ok (.iload 7, 2) := by decide +kernel
theorem dX0_takeIn_35 : decode cX0_takeIn 35 = .ok (.iload_n 1, 1) := by decide +kernel
theorem dX0_takeIn_36 : decode cX0_takeIn 36 = .ok (.invokevirtual 54, 3) := by decide +kernel
theorem dX0_takeIn_39 : decode cX0_takeIn 39 = .ok (.ifCond .eq 34, 3) := by decide +kernel
theorem dX0_takeIn_42 : decode cX0_takeIn 42 = .ok (.aload_n 0, 1) := by decide +kernel
theorem dX0_takeIn_43 : decode cX0_takeIn 43 = .ok (.getfield 9, 3) := by decide +kernel
theorem dX0_takeIn_46 : decode cX0_takeIn 46 = .ok (.iload 7, 2) := by decide +kernel
theorem dX0_takeIn_48 : decode cX0_takeIn 48 = .ok (.iaload, 1) := by decide +kernel
theorem dX0_takeIn_49 : decode cX0_takeIn 49 = .ok (.iload_n 2, 1) := by decide +kernel
theorem dX0_takeIn_50 : decode cX0_takeIn 50 = .ok (.if_icmp .ne 23, 3) := by decide +kernel
theorem dX0_takeIn_53 : decode cX0_takeIn 53 = .ok (.aload_n 0, 1) := by decide +kernel
theorem dX0_takeIn_54 : decode cX0_takeIn 54 = .ok (.getfield 18, 3) := by decide +kernel
theorem dX0_takeIn_57 : decode cX0_takeIn 57 = .ok (.iload 7, 2) := by decide +kernel
theorem dX0_takeIn_59 : decode cX0_takeIn 59 = .ok (.iconst 2, 1) := by decide +kernel
theorem dX0_takeIn_60 : decode cX0_takeIn 60 = .ok (.iastore, 1) := by decide +kernel
theorem dX0_takeIn_61 : decode cX0_takeIn 61 = .ok (.aload_n 0, 1) := by decide +kernel
theorem dX0_takeIn_62 : decode cX0_takeIn 62 = .ok (.getfield 27, 3) := by decide +kernel
theorem dX0_takeIn_65 : decode cX0_takeIn 65 = .ok (.iload 7, 2) := by decide +kernel
theorem dX0_takeIn_67 : decode cX0_takeIn 67 = .ok (.iload 4, 2) := by decide +kernel
theorem dX0_takeIn_69 : decode cX0_takeIn 69 = .ok (.iastore, 1) := by decide +kernel
theorem dX0_takeIn_70 : decode cX0_takeIn 70 = .ok (.iinc 6 1, 3) := by decide +kernel
theorem dX0_takeIn_73 : decode cX0_takeIn 73 = .ok (.iinc 7 1, 3) := by decide +kernel
theorem dX0_takeIn_76 : decode cX0_takeIn 76 = .ok (.goto (-60), 3) := by decide +kernel
theorem dX0_takeIn_79 : decode cX0_takeIn 79 = .ok (.iload 6, 2) := by decide +kernel
theorem dX0_takeIn_81 : decode cX0_takeIn 81 = .ok (.ireturn, 1) := by decide +kernel
set_option maxRecDepth 20000 in
theorem ggX0_loseCar_X0_rides : GoodIn wsX0_loseCar wsX0_rides := goodIn_r _ [11, 4, 6, 16, 17, 18, 19, 20, 21, 22, 23, 24] (by decide +kernel) (by decide +kernel)
set_option maxRecDepth 20000 in
theorem gX0_loseCar_X0_rides : GoodIn wsX0_loseCar (wsV RX0 58 RX0 yX0_rides wsX0_rides) := goodIn_app (goodIn_of _ (by decide +kernel)) ggX0_loseCar_X0_rides
set_option maxRecDepth 20000 in
theorem ggX0_loseCar_X0_waitsFor : GoodIn wsX0_loseCar wsX0_waitsFor := goodIn_r _ [15, 4, 6, 16, 17, 18, 19, 20, 21, 22, 23, 24] (by decide +kernel) (by decide +kernel)
set_option maxRecDepth 20000 in
theorem gX0_loseCar_X0_waitsFor : GoodIn wsX0_loseCar (wsV RX0 54 RX0 yX0_waitsFor wsX0_waitsFor) := goodIn_app (goodIn_of _ (by decide +kernel)) ggX0_loseCar_X0_waitsFor
theorem dX0_loseCar_0 : decode cX0_loseCar 0 = .ok (.iconst 0, 1) := by decide +kernel
theorem dX0_loseCar_1 : decode cX0_loseCar 1 = .ok (.istore 4, 2) := by decide +kernel
theorem dX0_loseCar_3 : decode cX0_loseCar 3 = .ok (.iload 4, 2) := by decide +kernel
theorem dX0_loseCar_5 : decode cX0_loseCar 5 = .ok (.aload_n 0, 1) := by decide +kernel
theorem dX0_loseCar_6 : decode cX0_loseCar 6 = .ok (.getfield 36, 3) := by decide +kernel
theorem dX0_loseCar_9 : decode cX0_loseCar 9 = .ok (.if_icmp .ge 101, 3) := by decide +kernel
theorem dX0_loseCar_12 : decode cX0_loseCar 12 = .ok (.aload_n 0, 1) := by decide +kernel
theorem dX0_loseCar_13 : decode cX0_loseCar 13 = .ok (.iload 4, 2) := by decide +kernel
theorem dX0_loseCar_15 : decode cX0_loseCar 15 = .ok (.iload_n 1, 1) := by decide +kernel
theorem dX0_loseCar_16 : decode cX0_loseCar 16 = .ok (.invokevirtual 58, 3) := by decide +kernel
theorem dX0_loseCar_19 : decode cX0_loseCar 19 = .ok (.istore 5, 2) := by decide +kernel
theorem dX0_loseCar_21 : decode cX0_loseCar 21 = .ok (.iload 5, 2) := by decide +kernel
theorem dX0_loseCar_23 : decode cX0_loseCar 23 = .ok (.ifCond .ne 16, 3) := by decide +kernel
theorem dX0_loseCar_26 : decode cX0_loseCar 26 = .ok (.aload_n 0, 1) := by decide +kernel
theorem dX0_loseCar_27 : decode cX0_loseCar 27 = .ok (.iload 4, 2) := by decide +kernel
theorem dX0_loseCar_29 : decode cX0_loseCar 29 = .ok (.iload_n 1, 1) := by decide +kernel
theorem dX0_loseCar_30 : decode cX0_loseCar 30 = .ok (.invokevirtual 54, 3) := by decide +kernel
theorem dX0_loseCar_33 : decode cX0_loseCar 33 = .ok (.ifCond .ne 6, 3) := by decide +kernel
theorem dX0_loseCar_36 : decode cX0_loseCar 36 = .ok (.goto 68, 3) := by decide +kernel
theorem dX0_loseCar_39 : decode cX0_loseCar 39 = .ok (.iload 5, 2) := by decide +kernel
theorem dX0_loseCar_41 : decode cX0_loseCar 41 = .ok (.ifCond .eq 11, 3) := by decide +kernel
theorem dX0_loseCar_44 : decode cX0_loseCar 44 = .ok (.aload_n 0, 1) := by decide +kernel
theorem dX0_loseCar_45 : decode cX0_loseCar 45 = .ok (.getfield 9, 3) := by decide +kernel
theorem dX0_loseCar_48 : decode cX0_loseCar 48 = .ok (.iload 4, 2) := by decide +kernel
theorem dX0_loseCar_50 : decode cX0_loseCar 50 = .ok (.iload_n 2, 1) := by decide +kernel
theorem dX0_loseCar_51 : decode cX0_loseCar 51 = .ok (.iastore, 1) := by decide +kernel
theorem dX0_loseCar_52 : decode cX0_loseCar 52 = .ok (.iload 5, 2) := by decide +kernel
theorem dX0_loseCar_54 : decode cX0_loseCar 54 = .ok (.ifCond .eq 33, 3) := by decide +kernel
theorem dX0_loseCar_57 : decode cX0_loseCar 57 = .ok (.aload_n 0, 1) := by decide +kernel
theorem dX0_loseCar_58 : decode cX0_loseCar 58 = .ok (.getfield 15, 3) := by decide +kernel
theorem dX0_loseCar_61 : decode cX0_loseCar 61 = .ok (.iload 4, 2) := by decide +kernel
theorem dX0_loseCar_63 : decode cX0_loseCar 63 = .ok (.iaload, 1) := by decide +kernel
theorem dX0_loseCar_64 : decode cX0_loseCar 64 = .ok (.iload_n 2, 1) := by decide +kernel
theorem dX0_loseCar_65 : decode cX0_loseCar 65 = .ok (.if_icmp .ne 22, 3) := by decide +kernel
theorem dX0_loseCar_68 : decode cX0_loseCar 68 = .ok (.aload_n 0, 1) := by decide +kernel
theorem dX0_loseCar_69 : decode cX0_loseCar 69 = .ok (.getfield 18, 3) := by decide +kernel
theorem dX0_loseCar_72 : decode cX0_loseCar 72 = .ok (.iload 4, 2) := by decide +kernel
theorem dX0_loseCar_74 : decode cX0_loseCar 74 = .ok (.iconst 3, 1) := by decide +kernel
theorem dX0_loseCar_75 : decode cX0_loseCar 75 = .ok (.iastore, 1) := by decide +kernel
theorem dX0_loseCar_76 : decode cX0_loseCar 76 = .ok (.aload_n 0, 1) := by decide +kernel
theorem dX0_loseCar_77 : decode cX0_loseCar 77 = .ok (.getfield 30, 3) := by decide +kernel
theorem dX0_loseCar_80 : decode cX0_loseCar 80 = .ok (.iload 4, 2) := by decide +kernel
theorem dX0_loseCar_82 : decode cX0_loseCar 82 = .ok (.iload_n 3, 1) := by decide +kernel
theorem dX0_loseCar_83 : decode cX0_loseCar 83 = .ok (.iastore, 1) := by decide +kernel
theorem dX0_loseCar_84 : decode cX0_loseCar 84 = .ok (.goto 20, 3) := by decide +kernel
theorem dX0_loseCar_87 : decode cX0_loseCar 87 = .ok (.aload_n 0, 1) := by decide +kernel
theorem dX0_loseCar_88 : decode cX0_loseCar 88 = .ok (.getfield 18, 3) := by decide +kernel
theorem dX0_loseCar_91 : decode cX0_loseCar 91 = .ok (.iload 4, 2) := by decide +kernel
theorem dX0_loseCar_93 : decode cX0_loseCar 93 = .ok (.iconst 0, 1) := by decide +kernel
theorem dX0_loseCar_94 : decode cX0_loseCar 94 = .ok (.iastore, 1) := by decide +kernel
theorem dX0_loseCar_95 : decode cX0_loseCar 95 = .ok (.aload_n 0, 1) := by decide +kernel
theorem dX0_loseCar_96 : decode cX0_loseCar 96 = .ok (.getfield 21, 3) := by decide +kernel
theorem dX0_loseCar_99 : decode cX0_loseCar 99 = .ok (.iload 4, 2) := by decide +kernel
theorem dX0_loseCar_101 : decode cX0_loseCar 101 = .ok (.bipush (-9), 2) := by decide +kernel
theorem dX0_loseCar_103 : decode cX0_loseCar 103 = .ok (.iastore, 1) := by decide +kernel
theorem dX0_loseCar_104 : decode cX0_loseCar 104 = .ok (.iinc 4 1, 3) := by decide +kernel
theorem dX0_loseCar_107 : decode cX0_loseCar 107 = .ok (.goto (-104), 3) := by decide +kernel
theorem dX0_loseCar_110 : decode cX0_loseCar 110 = .ok (.return_, 1) := by decide +kernel
theorem dX0_isInGroup_0 : decode cX0_isInGroup 0 = .ok (.aload_n 0, 1) := by decide +kernel
theorem dX0_isInGroup_1 : decode cX0_isInGroup 1 = .ok (.getfield 18, 3) := by decide +kernel
theorem dX0_isInGroup_4 : decode cX0_isInGroup 4 = .ok (.iload_n 1, 1) := by decide +kernel
theorem dX0_isInGroup_5 : decode cX0_isInGroup 5 = .ok (.iaload, 1) := by decide +kernel
theorem dX0_isInGroup_6 : decode cX0_isInGroup 6 = .ok (.ifCond .eq 13, 3) := by decide +kernel
theorem dX0_isInGroup_9 : decode cX0_isInGroup 9 = .ok (.aload_n 0, 1) := by decide +kernel
theorem dX0_isInGroup_10 : decode cX0_isInGroup 10 = .ok (.getfield 18, 3) := by decide +kernel
theorem dX0_isInGroup_13 : decode cX0_isInGroup 13 = .ok (.iload_n 1, 1) := by decide +kernel
theorem dX0_isInGroup_14 : decode cX0_isInGroup 14 = .ok (.iaload, 1) := by decide +kernel
theorem dX0_isInGroup_15 : decode cX0_isInGroup 15 = .ok (.iconst 1, 1) := by decide +kernel
theorem dX0_isInGroup_16 : decode cX0_isInGroup 16 = .ok (.if_icmp .ne 7, 3) := by decide +kernel
theorem dX0_isInGroup_19 : decode cX0_isInGroup 19 = .ok (.iconst 1, 1) := by decide +kernel
theorem dX0_isInGroup_20 : decode cX0_isInGroup 20 = .ok (.goto 4, 3) := by decide +kernel
theorem dX0_isInGroup_23 : decode cX0_isInGroup 23 = .ok (.iconst 0, 1) := by decide +kernel
theorem dX0_isInGroup_24 : decode cX0_isInGroup 24 = .ok (.ireturn, 1) := by decide +kernel
set_option maxRecDepth 20000 in
theorem ggX0_sameGroup_X0_isInGroup : GoodIn wsX0_sameGroup wsX0_isInGroup := goodIn_r _ [7, 8, 9, 10, 11, 12, 13, 14, 15, 16, 17] (by decide +kernel) (by decide +kernel)
set_option maxRecDepth 20000 in
theorem gX0_sameGroup_X0_isInGroup : GoodIn wsX0_sameGroup (wsV RX0 71 RX0 yX0_isInGroup wsX0_isInGroup) := goodIn_app (goodIn_of _ (by decide +kernel)) ggX0_sameGroup_X0_isInGroup
theorem dX0_sameGroup_0 : decode cX0_sameGroup 0 = .ok (.aload_n 0, 1) := by decide +kernel
theorem dX0_sameGroup_1 : decode cX0_sameGroup 1 = .ok (.iload_n 1, 1) := by decide +kernel
theorem dX0_sameGroup_2 : decode cX0_sameGroup 2 = .ok (.invokevirtual 71, 3) := by decide +kernel
theorem dX0_sameGroup_5 : decode cX0_sameGroup 5 = .ok (.ifCond .eq 45, 3) := by decide +kernel
theorem dX0_sameGroup_8 : decode cX0_sameGroup 8 = .ok (.aload_n 0, 1) := by decide +kernel
theorem dX0_sameGroup_9 : decode cX0_sameGroup 9 = .ok (.iload_n 2, 1) := by decide +kernel
theorem dX0_sameGroup_10 : decode cX0_sameGroup 10 = .ok (.invokevirtual 71, 3) := by decide +kernel
theorem dX0_sameGroup_13 : decode cX0_sameGroup 13 = .ok (.ifCond .eq 37, 3) := by decide +kernel
theorem dX0_sameGroup_16 : decode cX0_sameGroup 16 = .ok (.aload_n 0, 1) := by decide +kernel
theorem dX0_sameGroup_17 : decode cX0_sameGroup 17 = .ok (.getfield 9, 3) := by decide +kernel
theorem dX0_sameGroup_20 : decode cX0_sameGroup 20 = .ok (.iload_n 1, 1) := by decide +kernel
theorem dX0_sameGroup_21 : decode cX0_sameGroup 21 = .ok (.iaload, 1) := by decide +kernel
theorem dX0_sameGroup_22 : decode cX0_sameGroup 22 = .ok (.aload_n 0, 1) := by decide +kernel
theorem dX0_sameGroup_23 : decode cX0_sameGroup 23 = .ok (.getfield 9, 3) := by decide +kernel
theorem dX0_sameGroup_26 : decode cX0_sameGroup 26 = .ok (.iload_n 2, 1) := by decide +kernel
theorem dX0_sameGroup_27 : decode cX0_sameGroup 27 = .ok (.iaload, 1) := by decide +kernel
theorem dX0_sameGroup_28 : decode cX0_sameGroup 28 = .ok (.if_icmp .ne 22, 3) := by decide +kernel
theorem dX0_sameGroup_31 : decode cX0_sameGroup 31 = .ok (.aload_n 0, 1) := by decide +kernel
theorem dX0_sameGroup_32 : decode cX0_sameGroup 32 = .ok (.getfield 15, 3) := by decide +kernel
theorem dX0_sameGroup_35 : decode cX0_sameGroup 35 = .ok (.iload_n 1, 1) := by decide +kernel
theorem dX0_sameGroup_36 : decode cX0_sameGroup 36 = .ok (.iaload, 1) := by decide +kernel
theorem dX0_sameGroup_37 : decode cX0_sameGroup 37 = .ok (.aload_n 0, 1) := by decide +kernel
theorem dX0_sameGroup_38 : decode cX0_sameGroup 38 = .ok (.getfield 15, 3) := by decide +kernel
theorem dX0_sameGroup_41 : decode cX0_sameGroup 41 = .ok (.iload_n 2, 1) := by decide +kernel
theorem dX0_sameGroup_42 : decode cX0_sameGroup 42 = .ok (.iaload, 1) := by decide +kernel
theorem dX0_sameGroup_43 : decode cX0_sameGroup 43 = .ok (.if_icmp .ne 7, 3) := by decide +kernel
theorem dX0_sameGroup_46 : decode cX0_sameGroup 46 = .ok (.iconst 1, 1) := by decide +kernel
theorem dX0_sameGroup_47 : decode cX0_sameGroup 47 = .ok (.goto 4, 3) := by decide +kernel
theorem dX0_sameGroup_50 : decode cX0_sameGroup 50 = .ok (.iconst 0, 1) := by decide +kernel
theorem dX0_sameGroup_51 : decode cX0_sameGroup 51 = .ok (.ireturn, 1) := by decide +kernel
set_option maxRecDepth 20000 in
theorem ggX0_isFirstOfGroup_X0_sameGroup : GoodIn wsX0_isFirstOfGroup wsX0_sameGroup := goodIn_r _ [5, 6, 7, 8, 9, 10, 4, 11, 12, 13, 14, 15, 16, 17, 18, 19, 20, 21] (by decide +kernel) (by decide +kernel)
set_option maxRecDepth 20000 in
theorem gX0_isFirstOfGroup_X0_sameGroup : GoodIn wsX0_isFirstOfGroup (wsV RX0 74 RX0 yX0_sameGroup wsX0_sameGroup) := goodIn_app (goodIn_of _ (by decide +kernel)) ggX0_isFirstOfGroup_X0_sameGroup
set_option maxRecDepth 20000 in
theorem ggX0_isFirstOfGroup_X0_isInGroup : GoodIn wsX0_isFirstOfGroup wsX0_isInGroup := goodIn_r _ [11, 12, 13, 14, 15, 16, 17, 18, 19, 20, 21] (by decide +kernel) (by decide +kernel)
set_option maxRecDepth 20000 in
theorem gX0_isFirstOfGroup_X0_isInGroup : GoodIn wsX0_isFirstOfGroup (wsV RX0 71 RX0 yX0_isInGroup wsX0_isInGroup) := goodIn_app (goodIn_of _ (by decide +kernel)) ggX0_isFirstOfGroup_X0_isInGroup
theorem dX0_isFirstOfGroup_0 : decode cX0_isFirstOfGroup 0 = .ok (.iconst 0, 1) := by decide +kernel
theorem dX0_isFirstOfGroup_1 : decode cX0_isFirstOfGroup 1 = .ok (.istore_n 2, 1) := by decide +kernel
theorem dX0_isFirstOfGroup_2 : decode cX0_isFirstOfGroup 2 = .ok (.iload_n 2, 1) := by decide +kernel
theorem dX0_isFirstOfGroup_3 : decode cX0_isFirstOfGroup 3 = .ok (.iload_n 1, 1) := by decide +kernel
theorem dX0_isFirstOfGroup_4 : decode cX0_isFirstOfGroup 4 = .ok (.if_icmp .ge 20, 3) := by decide +kernel
theorem dX0_isFirstOfGroup_7 : decode cX0_isFirstOfGroup 7 = .ok (.aload_n 0, 1) := by decide +kernel
theorem dX0_isFirstOfGroup_8 : decode cX0_isFirstOfGroup 8 = .ok (.iload_n 2, 1) := by decide +kernel
theorem dX0_isFirstOfGroup_9 : decode cX0_isFirstOfGroup 9 = .ok (.iload_n 1, 1) := by decide +kernel
theorem dX0_isFirstOfGroup_10 : decode cX0_isFirstOfGroup 10 = .ok (.invokevirtual 74, 3) := by decide +kernel
theorem dX0_isFirstOfGroup_13 : decode cX0_isFirstOfGroup 13 = .ok (.ifCond .eq 5, 3) := by decide +kernel
theorem dX0_isFirstOfGroup_16 : decode cX0_isFirstOfGroup 16 = .ok (.iconst 0, 1) := by decide +kernel
theorem dX0_isFirstOfGroup_17 : decode cX0_isFirstOfGroup 17 = .ok (.ireturn, 1) := by decide +kernel
theorem dX0_isFirstOfGroup_18 : decode cX0_isFirstOfGroup 18 = .ok (.iinc 2 1, 3) := by decide +kernel
theorem dX0_isFirstOfGroup_21 : decode cX0_isFirstOfGroup 21 = .ok (.goto (-19), 3) := by decide +kernel
theorem dX0_isFirstOfGroup_24 : decode cX0_isFirstOfGroup 24 = .ok (.aload_n 0, 1) := by decide +kernel
theorem dX0_isFirstOfGroup_25 : decode cX0_isFirstOfGroup 25 = .ok (.iload_n 1, 1) := by decide +kernel
theorem dX0_isFirstOfGroup_26 : decode cX0_isFirstOfGroup 26 = .ok (.invokevirtual 71, 3) := by decide +kernel
theorem dX0_isFirstOfGroup_29 : decode cX0_isFirstOfGroup 29 = .ok (.ireturn, 1) := by decide +kernel
set_option maxRecDepth 20000 in
theorem ggX0_numberOfGroups_X0_isFirstOfGroup : GoodIn wsX0_numberOfGroups wsX0_isFirstOfGroup := goodIn_r _ [6, 7, 8, 9, 5, 10, 11, 12, 13, 14, 15, 16, 17, 18, 19, 20, 21, 22, 23, 24, 25, 26] (by decide +kernel) (by decide +kernel)
set_option maxRecDepth 20000 in
theorem gX0_numberOfGroups_X0_isFirstOfGroup : GoodIn wsX0_numberOfGroups (wsV RX0 77 RX0 yX0_isFirstOfGroup wsX0_isFirstOfGroup) := goodIn_app (goodIn_of _ (by decide +kernel)) ggX0_numberOfGroups_X0_isFirstOfGroup
theorem dX0_numberOfGroups_0 : decode cX0_numberOfGroups 0 = .ok (.iconst 0, 1) := by decide +kernel
theorem dX0_numberOfGroups_1 : decode cX0_numberOfGroups 1 = .ok (.istore_n 1, 1) := by decide +kernel
theorem dX0_numberOfGroups_2 : decode cX0_numberOfGroups 2 = .ok (.iconst 0, 1) := by decide +kernel
theorem dX0_numberOfGroups_3 : decode cX0_numberOfGroups 3 = .ok (.istore_n 2, 1) := by decide +kernel
theorem dX0_numberOfGroups_4 : decode cX0_numberOfGroups 4 = .ok (.iload_n 2, 1) := by decide +kernel
theorem dX0_numberOfGroups_5 : decode cX0_numberOfGroups 5 = .ok (.aload_n 0, 1) := by decide +kernel
theorem dX0_numberOfGroups_6 : decode cX0_numberOfGroups 6 = .ok (.getfield 36, 3) := by decide +kernel
theorem dX0_numberOfGroups_9 : decode cX0_numberOfGroups 9 = .ok (.if_icmp .ge 20, 3) := by decide +kernel
theorem dX0_numberOfGroups_12 : decode cX0_numberOfGroups 12 = .ok (.aload_n 0, 1) := by decide +kernel
theorem dX0_numberOfGroups_13 : decode cX0_numberOfGroups 13 = .ok (.iload_n 2, 1) := by decide +kernel
theorem dX0_numberOfGroups_14 : decode cX0_numberOfGroups 14 = .ok (.invokevirtual 77, 3) := by decide +kernel
theorem dX0_numberOfGroups_17 : decode cX0_numberOfGroups 17 = .ok (.ifCond .eq 6, 3) := by decide +kernel
theorem dX0_numberOfGroups_20 : decode cX0_numberOfGroups 20 = .ok (.iinc 1 1, 3) := by decide +kernel
theorem dX0_numberOfGroups_23 : decode cX0_numberOfGroups 23 = .ok (.iinc 2 1, 3) := by decide +kernel
theorem dX0_numberOfGroups_26 : decode cX0_numberOfGroups 26 = .ok (.goto (-22), 3) := by decide +kernel
theorem dX0_numberOfGroups_29 : decode cX0_numberOfGroups 29 = .ok (.iload_n 1, 1) := by decide +kernel
theorem dX0_numberOfGroups_30 : decode cX0_numberOfGroups 30 = .ok (.ireturn, 1) := by decide +kernel
set_option maxRecDepth 20000 in
theorem ggX0_firstOfGroup_X0_isFirstOfGroup : GoodIn wsX0_firstOfGroup wsX0_isFirstOfGroup := goodIn_r _ [6, 7, 8, 9, 5, 10, 11, 12, 13, 14, 15, 16, 17, 18, 19, 20, 21, 22, 23, 24, 25, 26] (by decide +kernel) (by decide +kernel)
set_option maxRecDepth 20000 in
theorem gX0_firstOfGroup_X0_isFirstOfGroup : GoodIn wsX0_firstOfGroup (wsV RX0 77 RX0 yX0_isFirstOfGroup wsX0_isFirstOfGroup) := goodIn_app (goodIn_of _ (by decide +kernel)) ggX0_firstOfGroup_X0_isFirstOfGroup
theorem dX0_firstOfGroup_0 : decode cX0_firstOfGroup 0 = .ok (.iconst 0, 1) := by decide +kernel
theorem dX0_firstOfGroup_1 : decode cX0_firstOfGroup 1 = .ok (.istore_n 2, 1) := by decide +kernel
theorem dX0_firstOfGroup_2 : decode cX0_firstOfGroup 2 = .ok (.iconst 0, 1) := by decide +kernel
theorem dX0_firstOfGroup_3 : decode cX0_firstOfGroup 3 = .ok (.istore_n 3, 1) := by decide +kernel
theorem dX0_firstOfGroup_4 : decode cX0_firstOfGroup 4 = .ok (.iload_n 3, 1) := by decide +kernel
theorem dX0_firstOfGroup_5 : decode cX0_firstOfGroup 5 = .ok (.aload_n 0, 1) := by decide +kernel
theorem dX0_firstOfGroup_6 : decode cX0_firstOfGroup 6 = .ok (.getfield 36, 3) := by decide +kernel
theorem dX0_firstOfGroup_9 : decode cX0_firstOfGroup 9 = .ok (.if_icmp .ge 30, 3) := by decide +kernel
theorem dX0_firstOfGroup_12 : decode cX0_firstOfGroup 12 = .ok (.aload_n 0, 1) := by decide +kernel
theorem dX0_firstOfGroup_13 : decode cX0_firstOfGroup 13 = .ok (.iload_n 3, 1) := by decide +kernel
theorem dX0_firstOfGroup_14 : decode cX0_firstOfGroup 14 = .ok (.invokevirtual 77, 3) := by decide +kernel
theorem dX0_firstOfGroup_17 : decode cX0_firstOfGroup 17 = .ok (.ifCond .ne 6, 3) := by decide +kernel
theorem dX0_firstOfGroup_20 : decode cX0_firstOfGroup 20 = .ok (.goto 13, 3) := by decide +kernel
theorem dX0_firstOfGroup_23 : decode cX0_firstOfGroup 23 = .ok (.iload_n 2, 1) := by decide +kernel
theorem dX0_firstOfGroup_24 : decode cX0_firstOfGroup 24 = .ok (.iload_n 1, 1) := by decide +kernel
theorem dX0_firstOfGroup_25 : decode cX0_firstOfGroup 25 = .ok (.if_icmp .ne 5, 3) := by decide +kernel
theorem dX0_firstOfGroup_28 : decode cX0_firstOfGroup 28 = .ok (.iload_n 3, 1) := by decide +kernel
theorem dX0_firstOfGroup_29 : decode cX0_firstOfGroup 29 = .ok (.ireturn, 1) := by decide +kernel
theorem dX0_firstOfGroup_30 : decode cX0_firstOfGroup 30 = .ok (.iinc 2 1, 3) := by decide +kernel
theorem dX0_firstOfGroup_33 : decode cX0_firstOfGroup 33 = .ok (.iinc 3 1, 3) := by decide +kernel
theorem dX0_firstOfGroup_36 : decode cX0_firstOfGroup 36 = .ok (.goto (-32), 3) := by decide +kernel
theorem dX0_firstOfGroup_39 : decode cX0_firstOfGroup 39 = .ok (.bipush (-9), 2) := by decide +kernel
theorem dX0_firstOfGroup_41 : decode cX0_firstOfGroup 41 = .ok (.ireturn, 1) := by decide +kernel
set_option maxRecDepth 20000 in
theorem ggX0_sizeOfGroup_X0_sameGroup : GoodIn wsX0_sizeOfGroup wsX0_sameGroup := goodIn_r _ [6, 7, 8, 9, 10, 11, 5, 12, 13, 14, 15, 16, 17, 18, 19, 20, 21, 22] (by decide +kernel) (by decide +kernel)
set_option maxRecDepth 20000 in
theorem gX0_sizeOfGroup_X0_sameGroup : GoodIn wsX0_sizeOfGroup (wsV RX0 74 RX0 yX0_sameGroup wsX0_sameGroup) := goodIn_app (goodIn_of _ (by decide +kernel)) ggX0_sizeOfGroup_X0_sameGroup
theorem dX0_sizeOfGroup_0 : decode cX0_sizeOfGroup 0 = .ok (.iconst 0, 1) := by decide +kernel
theorem dX0_sizeOfGroup_1 : decode cX0_sizeOfGroup 1 = .ok (.istore_n 2, 1) := by decide +kernel
theorem dX0_sizeOfGroup_2 : decode cX0_sizeOfGroup 2 = .ok (.iconst 0, 1) := by decide +kernel
theorem dX0_sizeOfGroup_3 : decode cX0_sizeOfGroup 3 = .ok (.istore_n 3, 1) := by decide +kernel
theorem dX0_sizeOfGroup_4 : decode cX0_sizeOfGroup 4 = .ok (.iload_n 3, 1) := by decide +kernel
theorem dX0_sizeOfGroup_5 : decode cX0_sizeOfGroup 5 = .ok (.aload_n 0, 1) := by decide +kernel
theorem dX0_sizeOfGroup_6 : decode cX0_sizeOfGroup 6 = .ok (.getfield 36, 3) := by decide +kernel
theorem dX0_sizeOfGroup_9 : decode cX0_sizeOfGroup 9 = .ok (.if_icmp .ge 21, 3) := by decide +kernel
theorem dX0_sizeOfGroup_12 : decode cX0_sizeOfGroup 12 = .ok (.aload_n 0, 1) := by decide +kernel
theorem dX0_sizeOfGroup_13 : decode cX0_sizeOfGroup 13 = .ok (.iload_n 1, 1) := by decide +kernel
theorem dX0_sizeOfGroup_14 : decode cX0_sizeOfGroup 14 = .ok (.iload_n 3, 1) := by decide +kernel
theorem dX0_sizeOfGroup_15 : decode cX0_sizeOfGroup 15 = .ok (.invokevirtual 74, 3) := by decide +kernel
theorem dX0_sizeOfGroup_18 : decode cX0_sizeOfGroup 18 = .ok (.ifCond .eq 6, 3) := by decide +kernel
theorem dX0_sizeOfGroup_21 : decode cX0_sizeOfGroup 21 = .ok (.iinc 2 1, 3) := by decide +kernel
theorem dX0_sizeOfGroup_24 : decode cX0_sizeOfGroup 24 = .ok (.iinc 3 1, 3) := by decide +kernel
theorem dX0_sizeOfGroup_27 : decode cX0_sizeOfGroup 27 = .ok (.goto (-23), 3) := by decide +kernel
theorem dX0_sizeOfGroup_30 : decode cX0_sizeOfGroup 30 = .ok (.iload_n 2, 1) := by decide +kernel
theorem dX0_sizeOfGroup_31 : decode cX0_sizeOfGroup 31 = .ok (.ireturn, 1) := by decide +kernel
