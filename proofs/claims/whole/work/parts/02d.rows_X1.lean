theorem dX1_init_0 : decode cX1_init 0 = .ok (.aload_n 0, 1) := by decide +kernel
theorem dX1_init_1 : decode cX1_init 1 = .ok (.invokespecial 3, 3) := by decide +kernel
theorem dX1_init_4 : decode cX1_init 4 = .ok (.aload_n 0, 1) := by decide +kernel
theorem dX1_init_5 : decode cX1_init 5 = .ok (.bipush 6, 2) := by decide +kernel
theorem dX1_init_7 : decode cX1_init 7 = .ok (.newarray .int, 2) := by decide +kernel
theorem dX1_init_9 : decode cX1_init 9 = .ok (.dup, 1) := by decide +kernel
theorem dX1_init_10 : decode cX1_init 10 = .ok (.iconst 0, 1) := by decide +kernel
theorem dX1_init_11 : decode cX1_init 11 = .ok (.bipush 50, 2) := by decide +kernel
theorem dX1_init_13 : decode cX1_init 13 = .ok (.iastore, 1) := by decide +kernel
theorem dX1_init_14 : decode cX1_init 14 = .ok (.dup, 1) := by decide +kernel
theorem dX1_init_15 : decode cX1_init 15 = .ok (.iconst 1, 1) := by decide +kernel
theorem dX1_init_16 : decode cX1_init 16 = .ok (.sipush 1000, 3) := by decide +kernel
theorem dX1_init_19 : decode cX1_init 19 = .ok (.iastore, 1) := by decide +kernel
theorem dX1_init_20 : decode cX1_init 20 = .ok (.dup, 1) := by decide +kernel
theorem dX1_init_21 : decode cX1_init 21 = .ok (.iconst 2, 1) := by decide +kernel
theorem dX1_init_22 : decode cX1_init 22 = .ok (.bipush 100, 2) := by decide +kernel
theorem dX1_init_24 : decode cX1_init 24 = .ok (.iastore, 1) := by decide +kernel
theorem dX1_init_25 : decode cX1_init 25 = .ok (.dup, 1) := by decide +kernel
theorem dX1_init_26 : decode cX1_init 26 = .ok (.iconst 3, 1) := by decide +kernel
theorem dX1_init_27 : decode cX1_init 27 = .ok (.sipush 2000, 3) := by decide +kernel
theorem dX1_init_30 : decode cX1_init 30 = .ok (.iastore, 1) := by decide +kernel
theorem dX1_init_31 : decode cX1_init 31 = .ok (.dup, 1) := by decide +kernel
theorem dX1_init_32 : decode cX1_init 32 = .ok (.iconst 4, 1) := by decide +kernel
theorem dX1_init_33 : decode cX1_init 33 = .ok (.bipush 120, 2) := by decide +kernel
theorem dX1_init_35 : decode cX1_init 35 = .ok (.iastore, 1) := by decide +kernel
theorem dX1_init_36 : decode cX1_init 36 = .ok (.dup, 1) := by decide +kernel
theorem dX1_init_37 : decode cX1_init 37 = .ok (.iconst 5, 1) := by decide +kernel
theorem dX1_init_38 : decode cX1_init 38 = .ok (.iconst 0, 1) := by decide +kernel
theorem dX1_init_39 : decode cX1_init 39 = .ok (.iastore, 1) := by decide +kernel
theorem dX1_init_40 : decode cX1_init 40 = .ok (.putfield 9, 3) := by decide +kernel
theorem dX1_init_43 : decode cX1_init 43 = .ok (.aload_n 0, 1) := by decide +kernel
theorem dX1_init_44 : decode cX1_init 44 = .ok (.bipush 96, 2) := by decide +kernel
theorem dX1_init_46 : decode cX1_init 46 = .ok (.newarray .int, 2) := by decide +kernel
theorem dX1_init_48 : decode cX1_init 48 = .ok (.putfield 15, 3) := by decide +kernel
theorem dX1_init_51 : decode cX1_init 51 = .ok (.aload_n 0, 1) := by decide +kernel
theorem dX1_init_52 : decode cX1_init 52 = .ok (.bipush 8, 2) := by decide +kernel
theorem dX1_init_54 : decode cX1_init 54 = .ok (.newarray .int, 2) := by decide +kernel
theorem dX1_init_56 : decode cX1_init 56 = .ok (.putfield 18, 3) := by decide +kernel
theorem dX1_init_59 : decode cX1_init 59 = .ok (.aload_n 0, 1) := by decide +kernel
theorem dX1_init_60 : decode cX1_init 60 = .ok (.iconst 0, 1) := by decide +kernel
theorem dX1_init_61 : decode cX1_init 61 = .ok (.putfield 21, 3) := by decide +kernel
theorem dX1_init_64 : decode cX1_init 64 = .ok (.aload_n 0, 1) := by decide +kernel
theorem dX1_init_65 : decode cX1_init 65 = .ok (.iconst 0, 1) := by decide +kernel
theorem dX1_init_66 : decode cX1_init 66 = .ok (.putfield 25, 3) := by decide +kernel
theorem dX1_init_69 : decode cX1_init 69 = .ok (.aload_n 0, 1) := by decide +kernel
theorem dX1_init_70 : decode cX1_init 70 = .ok (.iconst 0, 1) := by decide +kernel
theorem dX1_init_71 : decode cX1_init 71 = .ok (.putfield 28, 3) := by decide +kernel
theorem dX1_init_74 : decode cX1_init 74 = .ok (.aload_n 0, 1) := by decide +kernel
theorem dX1_init_75 : decode cX1_init 75 = .ok (.iconst 0, 1) := by decide +kernel
theorem dX1_init_76 : decode cX1_init 76 = .ok (.putfield 31, 3) := by decide +kernel
theorem dX1_init_79 : decode cX1_init 79 = .ok (.return_, 1) := by decide +kernel
theorem dX1_change_0 : decode cX1_change 0 = .ok (.aload_n 0, 1) := by decide +kernel
theorem dX1_change_1 : decode cX1_change 1 = .ok (.getfield 9, 3) := by decide +kernel
theorem dX1_change_4 : decode cX1_change 4 = .ok (.iload_n 1, 1) := by decide +kernel
theorem dX1_change_5 : decode cX1_change 5 = .ok (.iaload, 1) := by decide +kernel
theorem dX1_change_6 : decode cX1_change 6 = .ok (.istore_n 3, 1) := by decide +kernel
theorem dX1_change_7 : decode cX1_change 7 = .ok (.aload_n 0, 1) := by decide +kernel
theorem dX1_change_8 : decode cX1_change 8 = .ok (.getfield 9, 3) := by decide +kernel
theorem dX1_change_11 : decode cX1_change 11 = .ok (.iload_n 1, 1) := by decide +kernel
theorem dX1_change_12 : decode cX1_change 12 = .ok (.iload_n 2, 1) := by decide +kernel
theorem dX1_change_13 : decode cX1_change 13 = .ok (.iastore, 1) := by decide +kernel
theorem dX1_change_14 : decode cX1_change 14 = .ok (.iload_n 3, 1) := by decide +kernel
theorem dX1_change_15 : decode cX1_change 15 = .ok (.ireturn, 1) := by decide +kernel
theorem dX1_addHour_0 : decode cX1_addHour 0 = .ok (.aload_n 0, 1) := by decide +kernel
theorem dX1_addHour_1 : decode cX1_addHour 1 = .ok (.getfield 18, 3) := by decide +kernel
theorem dX1_addHour_4 : decode cX1_addHour 4 = .ok (.iload_n 1, 1) := by decide +kernel
theorem dX1_addHour_5 : decode cX1_addHour 5 = .ok (.iaload, 1) := by decide +kernel
theorem dX1_addHour_6 : decode cX1_addHour 6 = .ok (.bipush 12, 2) := by decide +kernel
theorem dX1_addHour_8 : decode cX1_addHour 8 = .ok (.if_icmp .lt 5, 3) := by decide +kernel
theorem dX1_addHour_11 : decode cX1_addHour 11 = .ok (.iconst 0, 1) := by decide +kernel
theorem dX1_addHour_12 : decode cX1_addHour 12 = .ok (.ireturn, 1) := by decide +kernel
theorem dX1_addHour_13 : decode cX1_addHour 13 = .ok (.aload_n 0, 1) := by decide +kernel
theorem dX1_addHour_14 : decode cX1_addHour 14 = .ok (.getfield 15, 3) := by decide +kernel
theorem dX1_addHour_17 : decode cX1_addHour 17 = .ok (.iload_n 1, 1) := by decide +kernel
theorem dX1_addHour_18 : decode cX1_addHour 18 = .ok (.bipush 12, 2) := by decide +kernel
theorem dX1_addHour_20 : decode cX1_addHour 20 = .ok (.imul, 1) := by decide +kernel
theorem dX1_addHour_21 : decode cX1_addHour 21 = .ok (.aload_n 0, 1) := by decide +kernel
theorem dX1_addHour_22 : decode cX1_addHour 22 = .ok (.getfield 18, 3) := by decide +kernel
theorem dX1_addHour_25 : decode cX1_addHour 25 = .ok (.iload_n 1, 1) := by decide +kernel
theorem dX1_addHour_26 : decode cX1_addHour 26 = .ok (.iaload, 1) := by decide +kernel
theorem dX1_addHour_27 : decode cX1_addHour 27 = .ok (.iadd, 1) := by decide +kernel
theorem dX1_addHour_28 : decode cX1_addHour 28 = .ok (.iload_n 2, 1) := by decide +kernel
theorem dX1_addHour_29 : decode cX1_addHour 29 = .ok (.iastore, 1) := by decide +kernel
theorem dX1_addHour_30 : decode cX1_addHour 30 = .ok (.aload_n 0, 1) := by decide +kernel
theorem dX1_addHour_31 : decode cX1_addHour 31 = .ok (.getfield 18, 3) := by decide +kernel
theorem dX1_addHour_34 : decode cX1_addHour 34 = .ok (.iload_n 1, 1) := by decide +kernel
theorem dX1_addHour_35 : decode cX1_addHour 35 = .ok (.dup2, 1) := by decide +kernel
theorem dX1_addHour_36 : decode cX1_addHour 36 = .ok (.iaload, 1) := by decide +kernel
theorem dX1_addHour_37 : decode cX1_addHour 37 = .ok (.iconst 1, 1) := by decide +kernel
theorem dX1_addHour_38 : decode cX1_addHour 38 = .ok (.iadd, 1) := by decide +kernel
theorem dX1_addHour_39 : decode cX1_addHour 39 = .ok (.iastore, 1) := by decide +kernel
theorem dX1_addHour_40 : decode cX1_addHour 40 = .ok (.iconst 1, 1) := by decide +kernel
theorem dX1_addHour_41 : decode cX1_addHour 41 = .ok (.ireturn, 1) := by decide +kernel
theorem dX1_emptyFlood_0 : decode cX1_emptyFlood 0 = .ok (.aload_n 0, 1) := by decide +kernel
theorem dX1_emptyFlood_1 : decode cX1_emptyFlood 1 = .ok (.getfield 18, 3) := by decide +kernel
theorem dX1_emptyFlood_4 : decode cX1_emptyFlood 4 = .ok (.iload_n 1, 1) := by decide +kernel
theorem dX1_emptyFlood_5 : decode cX1_emptyFlood 5 = .ok (.iaload, 1) := by decide +kernel
theorem dX1_emptyFlood_6 : decode cX1_emptyFlood 6 = .ok (.istore_n 2, 1) := by decide +kernel
theorem dX1_emptyFlood_7 : decode cX1_emptyFlood 7 = .ok (.aload_n 0, 1) := by decide +kernel
theorem dX1_emptyFlood_8 : decode cX1_emptyFlood 8 = .ok (.getfield 18, 3) := by decide +kernel
theorem dX1_emptyFlood_11 : decode cX1_emptyFlood 11 = .ok (.iload_n 1, 1) := by decide +kernel
theorem dX1_emptyFlood_12 : decode cX1_emptyFlood 12 = .ok (.iconst 0, 1) := by decide +kernel
theorem dX1_emptyFlood_13 : decode cX1_emptyFlood 13 = .ok (.iastore, 1) := by decide +kernel
theorem dX1_emptyFlood_14 : decode cX1_emptyFlood 14 = .ok (.iload_n 2, 1) := by decide +kernel
theorem dX1_emptyFlood_15 : decode cX1_emptyFlood 15 = .ok (.ireturn, 1) := by decide +kernel
theorem dX1_run_0 : decode cX1_run 0 = .ok (.aload_n 0, 1) := by decide +kernel
theorem dX1_run_1 : decode cX1_run 1 = .ok (.aload_n 0, 1) := by decide +kernel
theorem dX1_run_2 : decode cX1_run 2 = .ok (.getfield 9, 3) := by decide +kernel
theorem dX1_run_5 : decode cX1_run 5 = .ok (.iconst 5, 1) := by decide +kernel
theorem dX1_run_6 : decode cX1_run 6 = .ok (.iaload, 1) := by decide +kernel
theorem dX1_run_7 : decode cX1_run 7 = .ok (.putfield 21, 3) := by decide +kernel
theorem dX1_run_10 : decode cX1_run 10 = .ok (.aload_n 0, 1) := by decide +kernel
theorem dX1_run_11 : decode cX1_run 11 = .ok (.iconst 0, 1) := by decide +kernel
theorem dX1_run_12 : decode cX1_run 12 = .ok (.putfield 25, 3) := by decide +kernel
theorem dX1_run_15 : decode cX1_run 15 = .ok (.aload_n 0, 1) := by decide +kernel
theorem dX1_run_16 : decode cX1_run 16 = .ok (.iconst 0, 1) := by decide +kernel
theorem dX1_run_17 : decode cX1_run 17 = .ok (.putfield 28, 3) := by decide +kernel
theorem dX1_run_20 : decode cX1_run 20 = .ok (.aload_n 0, 1) := by decide +kernel
theorem dX1_run_21 : decode cX1_run 21 = .ok (.iconst 0, 1) := by decide +kernel
theorem dX1_run_22 : decode cX1_run 22 = .ok (.putfield 31, 3) := by decide +kernel
theorem dX1_run_25 : decode cX1_run 25 = .ok (.iconst 0, 1) := by decide +kernel
theorem dX1_run_26 : decode cX1_run 26 = .ok (.istore_n 3, 1) := by decide +kernel
theorem dX1_run_27 : decode cX1_run 27 = .ok (.iload_n 3, 1) := by decide +kernel
theorem dX1_run_28 : decode cX1_run 28 = .ok (.aload_n 0, 1) := by decide +kernel
theorem dX1_run_29 : decode cX1_run 29 = .ok (.getfield 18, 3) := by decide +kernel
theorem dX1_run_32 : decode cX1_run 32 = .ok (.iload_n 1, 1) := by decide +kernel
theorem dX1_run_33 : decode cX1_run 33 = .ok (.iaload, 1) := by decide +kernel
theorem dX1_run_34 : decode cX1_run 34 = .ok (.if_icmp .ge 25, 3) := by decide +kernel
theorem dX1_run_37 : decode cX1_run 37 = .ok (.aload_n 0, 1) := by decide +kernel
theorem dX1_run_38 : decode cX1_run 38 = .ok (.aload_n 0, 1) := by decide +kernel
theorem dX1_run_39 : decode cX1_run 39 = .ok (.getfield 15, 3) := by decide +kernel
theorem dX1_run_42 : decode cX1_run 42 = .ok (.iload_n 1, 1) := by decide +kernel
theorem dX1_run_43 : decode cX1_run 43 = .ok (.bipush 12, 2) := by decide +kernel
theorem dX1_run_45 : decode cX1_run 45 = .ok (.imul, 1) := by decide +kernel
theorem dX1_run_46 : decode cX1_run 46 = .ok (.iload_n 3, 1) := by decide +kernel
theorem dX1_run_47 : decode cX1_run 47 = .ok (.iadd, 1) := by decide +kernel
theorem dX1_run_48 : decode cX1_run 48 = .ok (.iaload, 1) := by decide +kernel
theorem dX1_run_49 : decode cX1_run 49 = .ok (.iload_n 2, 1) := by decide +kernel
theorem dX1_run_50 : decode cX1_run 50 = .ok (.invokevirtual 34, 3) := by decide +kernel
theorem dX1_run_53 : decode cX1_run 53 = .ok (.iinc 3 1, 3) := by decide +kernel
theorem dX1_run_56 : decode cX1_run 56 = .ok (.goto (-29), 3) := by decide +kernel
theorem dX1_run_59 : decode cX1_run 59 = .ok (.return_, 1) := by decide +kernel
theorem dX1_passHour_0 : decode cX1_passHour 0 = .ok (.aload_n 0, 1) := by decide +kernel
theorem dX1_passHour_1 : decode cX1_passHour 1 = .ok (.dup, 1) := by decide +kernel
theorem dX1_passHour_2 : decode cX1_passHour 2 = .ok (.getfield 21, 3) := by decide +kernel
theorem dX1_passHour_5 : decode cX1_passHour 5 = .ok (.iload_n 1, 1) := by decide +kernel
theorem dX1_passHour_6 : decode cX1_passHour 6 = .ok (.iadd, 1) := by decide +kernel
theorem dX1_passHour_7 : decode cX1_passHour 7 = .ok (.putfield 21, 3) := by decide +kernel
theorem dX1_passHour_10 : decode cX1_passHour 10 = .ok (.aload_n 0, 1) := by decide +kernel
theorem dX1_passHour_11 : decode cX1_passHour 11 = .ok (.getfield 21, 3) := by decide +kernel
theorem dX1_passHour_14 : decode cX1_passHour 14 = .ok (.iload_n 2, 1) := by decide +kernel
theorem dX1_passHour_15 : decode cX1_passHour 15 = .ok (.if_icmp .lt 19, 3) := by decide +kernel
theorem dX1_passHour_18 : decode cX1_passHour 18 = .ok (.aload_n 0, 1) := by decide +kernel
theorem dX1_passHour_19 : decode cX1_passHour 19 = .ok (.getfield 9, 3) := by decide +kernel
theorem dX1_passHour_22 : decode cX1_passHour 22 = .ok (.iconst 0, 1) := by decide +kernel
theorem dX1_passHour_23 : decode cX1_passHour 23 = .ok (.iaload, 1) := by decide +kernel
theorem dX1_passHour_24 : decode cX1_passHour 24 = .ok (.aload_n 0, 1) := by decide +kernel
theorem dX1_passHour_25 : decode cX1_passHour 25 = .ok (.getfield 21, 3) := by decide +kernel
theorem dX1_passHour_28 : decode cX1_passHour 28 = .ok (.invokestatic 38, 3) := by decide +kernel
theorem dX1_passHour_31 : decode cX1_passHour 31 = .ok (.goto 4, 3) := by decide +kernel
theorem dX1_passHour_34 : decode cX1_passHour 34 = .ok (.iconst 0, 1) := by decide +kernel
theorem dX1_passHour_35 : decode cX1_passHour 35 = .ok (.istore_n 3, 1) := by decide +kernel
theorem dX1_passHour_36 : decode cX1_passHour 36 = .ok (.aload_n 0, 1) := by decide +kernel
theorem dX1_passHour_37 : decode cX1_passHour 37 = .ok (.dup, 1) := by decide +kernel
theorem dX1_passHour_38 : decode cX1_passHour 38 = .ok (.getfield 21, 3) := by decide +kernel
theorem dX1_passHour_41 : decode cX1_passHour 41 = .ok (.iload_n 3, 1) := by decide +kernel
theorem dX1_passHour_42 : decode cX1_passHour 42 = .ok (.isub, 1) := by decide +kernel
theorem dX1_passHour_43 : decode cX1_passHour 43 = .ok (.putfield 21, 3) := by decide +kernel
theorem dX1_passHour_46 : decode cX1_passHour 46 = .ok (.iconst 0, 1) := by decide +kernel
theorem dX1_passHour_47 : decode cX1_passHour 47 = .ok (.aload_n 0, 1) := by decide +kernel
theorem dX1_passHour_48 : decode cX1_passHour 48 = .ok (.getfield 21, 3) := by decide +kernel
theorem dX1_passHour_51 : decode cX1_passHour 51 = .ok (.aload_n 0, 1) := by decide +kernel
theorem dX1_passHour_52 : decode cX1_passHour 52 = .ok (.getfield 9, 3) := by decide +kernel
theorem dX1_passHour_55 : decode cX1_passHour 55 = .ok (.iconst 1, 1) := by decide +kernel
theorem dX1_passHour_56 : decode cX1_passHour 56 = .ok (.iaload, 1) := by decide +kernel
theorem dX1_passHour_57 : decode cX1_passHour 57 = .ok (.isub, 1) := by decide +kernel
theorem dX1_passHour_58 : decode cX1_passHour 58 = .ok (.invokestatic 44, 3) := by decide +kernel
theorem dX1_passHour_61 : decode cX1_passHour 61 = .ok (.istore 4, 2) := by decide +kernel
theorem dX1_passHour_63 : decode cX1_passHour 63 = .ok (.aload_n 0, 1) := by decide +kernel
theorem dX1_passHour_64 : decode cX1_passHour 64 = .ok (.getfield 9, 3) := by decide +kernel
theorem dX1_passHour_67 : decode cX1_passHour 67 = .ok (.iconst 2, 1) := by decide +kernel
theorem dX1_passHour_68 : decode cX1_passHour 68 = .ok (.iaload, 1) := by decide +kernel
theorem dX1_passHour_69 : decode cX1_passHour 69 = .ok (.iload 4, 2) := by decide +kernel
theorem dX1_passHour_71 : decode cX1_passHour 71 = .ok (.iconst 1, 1) := by decide +kernel
theorem dX1_passHour_72 : decode cX1_passHour 72 = .ok (.iadd, 1) := by decide +kernel
theorem dX1_passHour_73 : decode cX1_passHour 73 = .ok (.iconst 2, 1) := by decide +kernel
theorem dX1_passHour_74 : decode cX1_passHour 74 = .ok (.idiv, 1) := by decide +kernel
theorem dX1_passHour_75 : decode cX1_passHour 75 = .ok (.invokestatic 38, 3) := by decide +kernel
theorem dX1_passHour_78 : decode cX1_passHour 78 = .ok (.istore 5, 2) := by decide +kernel
theorem dX1_passHour_80 : decode cX1_passHour 80 = .ok (.aload_n 0, 1) := by decide +kernel
theorem dX1_passHour_81 : decode cX1_passHour 81 = .ok (.dup, 1) := by decide +kernel
theorem dX1_passHour_82 : decode cX1_passHour 82 = .ok (.getfield 21, 3) := by decide +kernel
theorem dX1_passHour_85 : decode cX1_passHour 85 = .ok (.iload 5, 2) := by decide +kernel
theorem dX1_passHour_87 : decode cX1_passHour 87 = .ok (.isub, 1) := by decide +kernel
theorem dX1_passHour_88 : decode cX1_passHour 88 = .ok (.putfield 21, 3) := by decide +kernel
theorem dX1_passHour_91 : decode cX1_passHour 91 = .ok (.aload_n 0, 1) := by decide +kernel
theorem dX1_passHour_92 : decode cX1_passHour 92 = .ok (.getfield 21, 3) := by decide +kernel
theorem dX1_passHour_95 : decode cX1_passHour 95 = .ok (.aload_n 0, 1) := by decide +kernel
theorem dX1_passHour_96 : decode cX1_passHour 96 = .ok (.getfield 9, 3) := by decide +kernel
theorem dX1_passHour_99 : decode cX1_passHour 99 = .ok (.iconst 3, 1) := by decide +kernel
theorem dX1_passHour_100 : decode cX1_passHour 100 = .ok (.iaload, 1) := by decide +kernel
theorem dX1_passHour_101 : decode cX1_passHour 101 = .ok (.if_icmp .le 13, 3) := by decide +kernel
theorem dX1_passHour_104 : decode cX1_passHour 104 = .ok (.aload_n 0, 1) := by decide +kernel
theorem dX1_passHour_105 : decode cX1_passHour 105 = .ok (.dup, 1) := by decide +kernel
theorem dX1_passHour_106 : decode cX1_passHour 106 = .ok (.getfield 25, 3) := by decide +kernel
theorem dX1_passHour_109 : decode cX1_passHour 109 = .ok (.iconst 1, 1) := by decide +kernel
theorem dX1_passHour_110 : decode cX1_passHour 110 = .ok (.iadd, 1) := by decide +kernel
theorem dX1_passHour_111 : decode cX1_passHour 111 = .ok (.putfield 25, 3) := by decide +kernel
theorem dX1_passHour_114 : decode cX1_passHour 114 = .ok (.aload_n 0, 1) := by decide +kernel
theorem dX1_passHour_115 : decode cX1_passHour 115 = .ok (.aload_n 0, 1) := by decide +kernel
theorem dX1_passHour_116 : decode cX1_passHour 116 = .ok (.getfield 28, 3) := by decide +kernel
theorem dX1_passHour_119 : decode cX1_passHour 119 = .ok (.iload_n 3, 1) := by decide +kernel
theorem dX1_passHour_120 : decode cX1_passHour 120 = .ok (.iload 5, 2) := by decide +kernel
theorem dX1_passHour_122 : decode cX1_passHour 122 = .ok (.iadd, 1) := by decide +kernel
theorem dX1_passHour_123 : decode cX1_passHour 123 = .ok (.invokestatic 44, 3) := by decide +kernel
theorem dX1_passHour_126 : decode cX1_passHour 126 = .ok (.putfield 28, 3) := by decide +kernel
theorem dX1_passHour_129 : decode cX1_passHour 129 = .ok (.aload_n 0, 1) := by decide +kernel
theorem dX1_passHour_130 : decode cX1_passHour 130 = .ok (.dup, 1) := by decide +kernel
theorem dX1_passHour_131 : decode cX1_passHour 131 = .ok (.getfield 31, 3) := by decide +kernel
theorem dX1_passHour_134 : decode cX1_passHour 134 = .ok (.iload_n 3, 1) := by decide +kernel
theorem dX1_passHour_135 : decode cX1_passHour 135 = .ok (.iload 5, 2) := by decide +kernel
theorem dX1_passHour_137 : decode cX1_passHour 137 = .ok (.iadd, 1) := by decide +kernel
theorem dX1_passHour_138 : decode cX1_passHour 138 = .ok (.iadd, 1) := by decide +kernel
theorem dX1_passHour_139 : decode cX1_passHour 139 = .ok (.putfield 31, 3) := by decide +kernel
theorem dX1_passHour_142 : decode cX1_passHour 142 = .ok (.return_, 1) := by decide +kernel
theorem dX1_wasSafe_0 : decode cX1_wasSafe 0 = .ok (.aload_n 0, 1) := by decide +kernel
theorem dX1_wasSafe_1 : decode cX1_wasSafe 1 = .ok (.getfield 25, 3) := by decide +kernel
theorem dX1_wasSafe_4 : decode cX1_wasSafe 4 = .ok (.ifCond .ne 20, 3) := by decide +kernel
theorem dX1_wasSafe_7 : decode cX1_wasSafe 7 = .ok (.aload_n 0, 1) := by decide +kernel
theorem dX1_wasSafe_8 : decode cX1_wasSafe 8 = .ok (.getfield 28, 3) := by decide +kernel
theorem dX1_wasSafe_11 : decode cX1_wasSafe 11 = .ok (.aload_n 0, 1) := by decide +kernel
theorem dX1_wasSafe_12 : decode cX1_wasSafe 12 = .ok (.getfield 9, 3) := by decide +kernel
theorem dX1_wasSafe_15 : decode cX1_wasSafe 15 = .ok (.iconst 4, 1) := by decide +kernel
theorem dX1_wasSafe_16 : decode cX1_wasSafe 16 = .ok (.iaload, 1) := by decide +kernel
theorem dX1_wasSafe_17 : decode cX1_wasSafe 17 = .ok (.if_icmp .gt 7, 3) := by decide +kernel
theorem dX1_wasSafe_20 : decode cX1_wasSafe 20 = .ok (.iconst 1, 1) := by decide +kernel
theorem dX1_wasSafe_21 : decode cX1_wasSafe 21 = .ok (.goto 4, 3) := by decide +kernel
theorem dX1_wasSafe_24 : decode cX1_wasSafe 24 = .ok (.iconst 0, 1) := by decide +kernel
theorem dX1_wasSafe_25 : decode cX1_wasSafe 25 = .ok (.ireturn, 1) := by decide +kernel
theorem dX1_safeFloods_0 : decode cX1_safeFloods 0 = .ok (.iconst 0, 1) := by decide +kernel
theorem dX1_safeFloods_1 : decode cX1_safeFloods 1 = .ok (.istore_n 2, 1) := by decide +kernel
theorem dX1_safeFloods_2 : decode cX1_safeFloods 2 = .ok (.iconst 0, 1) := by decide +kernel
theorem dX1_safeFloods_3 : decode cX1_safeFloods 3 = .ok (.istore_n 3, 1) := by decide +kernel
theorem dX1_safeFloods_4 : decode cX1_safeFloods 4 = .ok (.iload_n 3, 1) := by decide +kernel
theorem dX1_safeFloods_5 : decode cX1_safeFloods 5 = .ok (.bipush 8, 2) := by decide +kernel
theorem dX1_safeFloods_7 : decode cX1_safeFloods 7 = .ok (.if_icmp .ge 25, 3) := by decide +kernel
theorem dX1_safeFloods_10 : decode cX1_safeFloods 10 = .ok (.aload_n 0, 1) := by decide +kernel
theorem dX1_safeFloods_11 : decode cX1_safeFloods 11 = .ok (.iload_n 3, 1) := by decide +kernel
theorem dX1_safeFloods_12 : decode cX1_safeFloods 12 = .ok (.iload_n 1, 1) := by decide +kernel
theorem dX1_safeFloods_13 : decode cX1_safeFloods 13 = .ok (.invokevirtual 47, 3) := by decide +kernel
theorem dX1_safeFloods_16 : decode cX1_safeFloods 16 = .ok (.aload_n 0, 1) := by decide +kernel
theorem dX1_safeFloods_17 : decode cX1_safeFloods 17 = .ok (.invokevirtual 50, 3) := by decide +kernel
theorem dX1_safeFloods_20 : decode cX1_safeFloods 20 = .ok (.ifCond .eq 6, 3) := by decide +kernel
theorem dX1_safeFloods_23 : decode cX1_safeFloods 23 = .ok (.iinc 2 1, 3) := by decide +kernel
theorem dX1_safeFloods_26 : decode cX1_safeFloods 26 = .ok (.iinc 3 1, 3) := by decide +kernel
theorem dX1_safeFloods_29 : decode cX1_safeFloods 29 = .ok (.goto (-25), 3) := by decide +kernel
theorem dX1_safeFloods_32 : decode cX1_safeFloods 32 = .ok (.iload_n 2, 1) := by decide +kernel
theorem dX1_safeFloods_33 : decode cX1_safeFloods 33 = .ok (.ireturn, 1) := by decide +kernel
