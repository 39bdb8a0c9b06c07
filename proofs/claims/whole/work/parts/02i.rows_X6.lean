theorem dX6_init_0 : decode cX6_init 0 = .ok (.aload_n 0, 1) := by decide +kernel
theorem dX6_init_1 : decode cX6_init 1 = .ok (.invokespecial 3, 3) := by decide +kernel
theorem dX6_init_4 : decode cX6_init 4 = .ok (.aload_n 0, 1) := by decide +kernel
theorem dX6_init_5 : decode cX6_init 5 = .ok (.new 9, 3) := by decide +kernel
theorem dX6_init_8 : decode cX6_init 8 = .ok (.dup, 1) := by decide +kernel
theorem dX6_init_9 : decode cX6_init 9 = .ok (.invokespecial 11, 3) := by decide +kernel
theorem dX6_init_12 : decode cX6_init 12 = .ok (.putfield 12, 3) := by decide +kernel
theorem dX6_init_15 : decode cX6_init 15 = .ok (.aload_n 0, 1) := by decide +kernel
theorem dX6_init_16 : decode cX6_init 16 = .ok (.new 16, 3) := by decide +kernel
theorem dX6_init_19 : decode cX6_init 19 = .ok (.dup, 1) := by decide +kernel
theorem dX6_init_20 : decode cX6_init 20 = .ok (.invokespecial 18, 3) := by decide +kernel
theorem dX6_init_23 : decode cX6_init 23 = .ok (.putfield 19, 3) := by decide +kernel
theorem dX6_init_26 : decode cX6_init 26 = .ok (.aload_n 0, 1) := by decide +kernel
theorem dX6_init_27 : decode cX6_init 27 = .ok (.new 16, 3) := by decide +kernel
theorem dX6_init_30 : decode cX6_init 30 = .ok (.dup, 1) := by decide +kernel
theorem dX6_init_31 : decode cX6_init 31 = .ok (.invokespecial 18, 3) := by decide +kernel
theorem dX6_init_34 : decode cX6_init 34 = .ok (.putfield 23, 3) := by decide +kernel
theorem dX6_init_37 : decode cX6_init 37 = .ok (.aload_n 0, 1) := by decide +kernel
theorem dX6_init_38 : decode cX6_init 38 = .ok (.new 16, 3) := by decide +kernel
theorem dX6_init_41 : decode cX6_init 41 = .ok (.dup, 1) := by decide +kernel
theorem dX6_init_42 : decode cX6_init 42 = .ok (.invokespecial 18, 3) := by decide +kernel
theorem dX6_init_45 : decode cX6_init 45 = .ok (.putfield 26, 3) := by decide +kernel
theorem dX6_init_48 : decode cX6_init 48 = .ok (.aload_n 0, 1) := by decide +kernel
theorem dX6_init_49 : decode cX6_init 49 = .ok (.new 16, 3) := by decide +kernel
theorem dX6_init_52 : decode cX6_init 52 = .ok (.dup, 1) := by decide +kernel
theorem dX6_init_53 : decode cX6_init 53 = .ok (.invokespecial 18, 3) := by decide +kernel
theorem dX6_init_56 : decode cX6_init 56 = .ok (.putfield 29, 3) := by decide +kernel
theorem dX6_init_59 : decode cX6_init 59 = .ok (.aload_n 0, 1) := by decide +kernel
theorem dX6_init_60 : decode cX6_init 60 = .ok (.iconst 2, 1) := by decide +kernel
theorem dX6_init_61 : decode cX6_init 61 = .ok (.newarray .int, 2) := by decide +kernel
theorem dX6_init_63 : decode cX6_init 63 = .ok (.putfield 32, 3) := by decide +kernel
theorem dX6_init_66 : decode cX6_init 66 = .ok (.aload_n 0, 1) := by decide +kernel
theorem dX6_init_67 : decode cX6_init 67 = .ok (.new 36, 3) := by decide +kernel
theorem dX6_init_70 : decode cX6_init 70 = .ok (.dup, 1) := by decide +kernel
theorem dX6_init_71 : decode cX6_init 71 = .ok (.invokespecial 38, 3) := by decide +kernel
theorem dX6_init_74 : decode cX6_init 74 = .ok (.putfield 39, 3) := by decide +kernel
theorem dX6_init_77 : decode cX6_init 77 = .ok (.aload_n 0, 1) := by decide +kernel
theorem dX6_init_78 : decode cX6_init 78 = .ok (.new 43, 3) := by decide +kernel
theorem dX6_init_81 : decode cX6_init 81 = .ok (.dup, 1) := by decide +kernel
theorem dX6_init_82 : decode cX6_init 82 = .ok (.invokespecial 45, 3) := by decide +kernel
theorem dX6_init_85 : decode cX6_init 85 = .ok (.putfield 46, 3) := by decide +kernel
theorem dX6_init_88 : decode cX6_init 88 = .ok (.aload_n 0, 1) := by decide +kernel
theorem dX6_init_89 : decode cX6_init 89 = .ok (.new 50, 3) := by decide +kernel
theorem dX6_init_92 : decode cX6_init 92 = .ok (.dup, 1) := by decide +kernel
theorem dX6_init_93 : decode cX6_init 93 = .ok (.invokespecial 52, 3) := by decide +kernel
theorem dX6_init_96 : decode cX6_init 96 = .ok (.putfield 53, 3) := by decide +kernel
theorem dX6_init_99 : decode cX6_init 99 = .ok (.aload_n 0, 1) := by decide +kernel
theorem dX6_init_100 : decode cX6_init 100 = .ok (.new 57, 3) := by decide +kernel
theorem dX6_init_103 : decode cX6_init 103 = .ok (.dup, 1) := by decide +kernel
theorem dX6_init_104 : decode cX6_init 104 = .ok (.invokespecial 59, 3) := by decide +kernel
theorem dX6_init_107 : decode cX6_init 107 = .ok (.putfield 60, 3) := by decide +kernel
theorem dX6_init_110 : decode cX6_init 110 = .ok (.aload_n 0, 1) := by decide +kernel
theorem dX6_init_111 : decode cX6_init 111 = .ok (.iconst 4, 1) := by decide +kernel
theorem dX6_init_112 : decode cX6_init 112 = .ok (.putfield 64, 3) := by decide +kernel
theorem dX6_init_115 : decode cX6_init 115 = .ok (.aload_n 0, 1) := by decide +kernel
theorem dX6_init_116 : decode cX6_init 116 = .ok (.lconst 0, 1) := by decide +kernel
theorem dX6_init_117 : decode cX6_init 117 = .ok (.putfield 68, 3) := by decide +kernel
theorem dX6_init_120 : decode cX6_init 120 = .ok (.return_, 1) := by decide +kernel
theorem dX6_type_0 : decode cX6_type 0 = .ok (.iload_n 3, 1) := by decide +kernel
theorem dX6_type_1 : decode cX6_type 1 = .ok (.iconst 1, 1) := by decide +kernel
theorem dX6_type_2 : decode cX6_type 2 = .ok (.bipush 8, 2) := by decide +kernel
theorem dX6_type_4 : decode cX6_type 4 = .ok (.invokestatic 72, 3) := by decide +kernel
theorem dX6_type_7 : decode cX6_type 7 = .ok (.ifCond .ne 5, 3) := by decide +kernel
theorem dX6_type_10 : decode cX6_type 10 = .ok (.iconst (-1), 1) := by decide +kernel
theorem dX6_type_11 : decode cX6_type 11 = .ok (.ireturn, 1) := by decide +kernel
theorem dX6_type_12 : decode cX6_type 12 = .ok (.aload_n 0, 1) := by decide +kernel
theorem dX6_type_13 : decode cX6_type 13 = .ok (.getfield 12, 3) := by decide +kernel
theorem dX6_type_16 : decode cX6_type 16 = .ok (.lload_n 1, 1) := by decide +kernel
theorem dX6_type_17 : decode cX6_type 17 = .ok (.iload_n 3, 1) := by decide +kernel
theorem dX6_type_18 : decode cX6_type 18 = .ok (.invokevirtual 76, 3) := by decide +kernel
theorem dX6_type_21 : decode cX6_type 21 = .ok (.ifCond .eq 13, 3) := by decide +kernel
theorem dX6_type_24 : decode cX6_type 24 = .ok (.aload_n 0, 1) := by decide +kernel
theorem dX6_type_25 : decode cX6_type 25 = .ok (.getfield 12, 3) := by decide +kernel
theorem dX6_type_28 : decode cX6_type 28 = .ok (.getfield 80, 3) := by decide +kernel
theorem dX6_type_31 : decode cX6_type 31 = .ok (.goto 5, 3) := by decide +kernel
theorem dX6_type_34 : decode cX6_type 34 = .ok (.bipush (-3), 2) := by decide +kernel
theorem dX6_type_36 : decode cX6_type 36 = .ok (.ireturn, 1) := by decide +kernel
theorem dX6_clear_0 : decode cX6_clear 0 = .ok (.aload_n 0, 1) := by decide +kernel
theorem dX6_clear_1 : decode cX6_clear 1 = .ok (.getfield 12, 3) := by decide +kernel
theorem dX6_clear_4 : decode cX6_clear 4 = .ok (.invokevirtual 83, 3) := by decide +kernel
theorem dX6_clear_7 : decode cX6_clear 7 = .ok (.ireturn, 1) := by decide +kernel
theorem dX6_dam_0 : decode cX6_dam 0 = .ok (.aload_n 0, 1) := by decide +kernel
theorem dX6_dam_1 : decode cX6_dam 1 = .ok (.getfield 12, 3) := by decide +kernel
theorem dX6_dam_4 : decode cX6_dam 4 = .ok (.aload_n 0, 1) := by decide +kernel
theorem dX6_dam_5 : decode cX6_dam 5 = .ok (.getfield 23, 3) := by decide +kernel
theorem dX6_dam_8 : decode cX6_dam 8 = .ok (.invokevirtual 87, 3) := by decide +kernel
theorem dX6_dam_11 : decode cX6_dam 11 = .ok (.istore_n 1, 1) := by decide +kernel
theorem dX6_dam_12 : decode cX6_dam 12 = .ok (.iload_n 1, 1) := by decide +kernel
theorem dX6_dam_13 : decode cX6_dam 13 = .ok (.iconst (-1), 1) := by decide +kernel
theorem dX6_dam_14 : decode cX6_dam 14 = .ok (.if_icmp .eq 8, 3) := by decide +kernel
theorem dX6_dam_17 : decode cX6_dam 17 = .ok (.bipush (-10), 2) := by decide +kernel
theorem dX6_dam_19 : decode cX6_dam 19 = .ok (.iload_n 1, 1) := by decide +kernel
theorem dX6_dam_20 : decode cX6_dam 20 = .ok (.isub, 1) := by decide +kernel
theorem dX6_dam_21 : decode cX6_dam 21 = .ok (.ireturn, 1) := by decide +kernel
theorem dX6_dam_22 : decode cX6_dam 22 = .ok (.aload_n 0, 1) := by decide +kernel
theorem dX6_dam_23 : decode cX6_dam 23 = .ok (.getfield 23, 3) := by decide +kernel
theorem dX6_dam_26 : decode cX6_dam 26 = .ok (.aload_n 0, 1) := by decide +kernel
theorem dX6_dam_27 : decode cX6_dam 27 = .ok (.getfield 19, 3) := by decide +kernel
theorem dX6_dam_30 : decode cX6_dam 30 = .ok (.getfield 91, 3) := by decide +kernel
theorem dX6_dam_33 : decode cX6_dam 33 = .ok (.putfield 91, 3) := by decide +kernel
theorem dX6_dam_36 : decode cX6_dam 36 = .ok (.aload_n 0, 1) := by decide +kernel
theorem dX6_dam_37 : decode cX6_dam 37 = .ok (.getfield 19, 3) := by decide +kernel
theorem dX6_dam_40 : decode cX6_dam 40 = .ok (.aload_n 0, 1) := by decide +kernel
theorem dX6_dam_41 : decode cX6_dam 41 = .ok (.getfield 23, 3) := by decide +kernel
theorem dX6_dam_44 : decode cX6_dam 44 = .ok (.invokevirtual 94, 3) := by decide +kernel
theorem dX6_dam_47 : decode cX6_dam 47 = .ok (.aload_n 0, 1) := by decide +kernel
theorem dX6_dam_48 : decode cX6_dam 48 = .ok (.getfield 12, 3) := by decide +kernel
theorem dX6_dam_51 : decode cX6_dam 51 = .ok (.invokevirtual 83, 3) := by decide +kernel
theorem dX6_dam_54 : decode cX6_dam 54 = .ok (.pop, 1) := by decide +kernel
theorem dX6_dam_55 : decode cX6_dam 55 = .ok (.aload_n 0, 1) := by decide +kernel
theorem dX6_dam_56 : decode cX6_dam 56 = .ok (.getfield 19, 3) := by decide +kernel
theorem dX6_dam_59 : decode cX6_dam 59 = .ok (.invokevirtual 98, 3) := by decide +kernel
theorem dX6_dam_62 : decode cX6_dam 62 = .ok (.ireturn, 1) := by decide +kernel
theorem dX6_cell_0 : decode cX6_cell 0 = .ok (.iload_n 1, 1) := by decide +kernel
theorem dX6_cell_1 : decode cX6_cell 1 = .ok (.iload_n 2, 1) := by decide +kernel
theorem dX6_cell_2 : decode cX6_cell 2 = .ok (.invokestatic 101, 3) := by decide +kernel
theorem dX6_cell_5 : decode cX6_cell 5 = .ok (.ifCond .eq 12, 3) := by decide +kernel
theorem dX6_cell_8 : decode cX6_cell 8 = .ok (.iload_n 3, 1) := by decide +kernel
theorem dX6_cell_9 : decode cX6_cell 9 = .ok (.iconst 0, 1) := by decide +kernel
theorem dX6_cell_10 : decode cX6_cell 10 = .ok (.iconst 3, 1) := by decide +kernel
theorem dX6_cell_11 : decode cX6_cell 11 = .ok (.invokestatic 72, 3) := by decide +kernel
theorem dX6_cell_14 : decode cX6_cell 14 = .ok (.ifCond .ne 5, 3) := by decide +kernel
theorem dX6_cell_17 : decode cX6_cell 17 = .ok (.iconst (-1), 1) := by decide +kernel
theorem dX6_cell_18 : decode cX6_cell 18 = .ok (.ireturn, 1) := by decide +kernel
theorem dX6_cell_19 : decode cX6_cell 19 = .ok (.iload_n 1, 1) := by decide +kernel
theorem dX6_cell_20 : decode cX6_cell 20 = .ok (.iload_n 2, 1) := by decide +kernel
theorem dX6_cell_21 : decode cX6_cell 21 = .ok (.invokestatic 105, 3) := by decide +kernel
theorem dX6_cell_24 : decode cX6_cell 24 = .ok (.istore 4, 2) := by decide +kernel
theorem dX6_cell_26 : decode cX6_cell 26 = .ok (.aload_n 0, 1) := by decide +kernel
theorem dX6_cell_27 : decode cX6_cell 27 = .ok (.getfield 19, 3) := by decide +kernel
theorem dX6_cell_30 : decode cX6_cell 30 = .ok (.iload 4, 2) := by decide +kernel
theorem dX6_cell_32 : decode cX6_cell 32 = .ok (.invokevirtual 109, 3) := by decide +kernel
theorem dX6_cell_35 : decode cX6_cell 35 = .ok (.istore 5, 2) := by decide +kernel
theorem dX6_cell_37 : decode cX6_cell 37 = .ok (.iload_n 3, 1) := by decide +kernel
theorem dX6_cell_38 : decode cX6_cell 38 = .ok (.ifCond .ne 24, 3) := by decide +kernel
theorem dX6_cell_41 : decode cX6_cell 41 = .ok (.iload 5, 2) := by decide +kernel
theorem dX6_cell_43 : decode cX6_cell 43 = .ok (.ifCond .eq 8, 3) := by decide +kernel
theorem dX6_cell_46 : decode cX6_cell 46 = .ok (.bipush (-9), 2) := by decide +kernel
theorem dX6_cell_48 : decode cX6_cell 48 = .ok (.goto 13, 3) := by decide +kernel
theorem dX6_cell_51 : decode cX6_cell 51 = .ok (.aload_n 0, 1) := by decide +kernel
theorem dX6_cell_52 : decode cX6_cell 52 = .ok (.getfield 19, 3) := by decide +kernel
theorem dX6_cell_55 : decode cX6_cell 55 = .ok (.getfield 113, 3) := by decide +kernel
theorem dX6_cell_58 : decode cX6_cell 58 = .ok (.iload 4, 2) := by decide +kernel
theorem dX6_cell_60 : decode cX6_cell 60 = .ok (.iaload, 1) := by decide +kernel
theorem dX6_cell_61 : decode cX6_cell 61 = .ok (.ireturn, 1) := by decide +kernel
theorem dX6_cell_62 : decode cX6_cell 62 = .ok (.iload 5, 2) := by decide +kernel
theorem dX6_cell_64 : decode cX6_cell 64 = .ok (.ifCond .eq 6, 3) := by decide +kernel
theorem dX6_cell_67 : decode cX6_cell 67 = .ok (.bipush (-2), 2) := by decide +kernel
theorem dX6_cell_69 : decode cX6_cell 69 = .ok (.ireturn, 1) := by decide +kernel
theorem dX6_cell_70 : decode cX6_cell 70 = .ok (.iload_n 3, 1) := by decide +kernel
theorem dX6_cell_71 : decode cX6_cell 71 = .ok (.iconst 1, 1) := by decide +kernel
theorem dX6_cell_72 : decode cX6_cell 72 = .ok (.if_icmp .ne 14, 3) := by decide +kernel
theorem dX6_cell_75 : decode cX6_cell 75 = .ok (.aload_n 0, 1) := by decide +kernel
theorem dX6_cell_76 : decode cX6_cell 76 = .ok (.getfield 19, 3) := by decide +kernel
theorem dX6_cell_79 : decode cX6_cell 79 = .ok (.getfield 116, 3) := by decide +kernel
theorem dX6_cell_82 : decode cX6_cell 82 = .ok (.iload 4, 2) := by decide +kernel
theorem dX6_cell_84 : decode cX6_cell 84 = .ok (.iaload, 1) := by decide +kernel
theorem dX6_cell_85 : decode cX6_cell 85 = .ok (.ireturn, 1) := by decide +kernel
theorem dX6_cell_86 : decode cX6_cell 86 = .ok (.iload_n 3, 1) := by decide +kernel
theorem dX6_cell_87 : decode cX6_cell 87 = .ok (.iconst 2, 1) := by decide +kernel
theorem dX6_cell_88 : decode cX6_cell 88 = .ok (.if_icmp .ne 15, 3) := by decide +kernel
theorem dX6_cell_91 : decode cX6_cell 91 = .ok (.aload_n 0, 1) := by decide +kernel
theorem dX6_cell_92 : decode cX6_cell 92 = .ok (.getfield 19, 3) := by decide +kernel
theorem dX6_cell_95 : decode cX6_cell 95 = .ok (.iload 4, 2) := by decide +kernel
theorem dX6_cell_97 : decode cX6_cell 97 = .ok (.invokevirtual 119, 3) := by decide +kernel
theorem dX6_cell_100 : decode cX6_cell 100 = .ok (.goto 13, 3) := by decide +kernel
theorem dX6_cell_103 : decode cX6_cell 103 = .ok (.aload_n 0, 1) := by decide +kernel
theorem dX6_cell_104 : decode cX6_cell 104 = .ok (.getfield 19, 3) := by decide +kernel
theorem dX6_cell_107 : decode cX6_cell 107 = .ok (.getfield 123, 3) := by decide +kernel
theorem dX6_cell_110 : decode cX6_cell 110 = .ok (.iload 4, 2) := by decide +kernel
theorem dX6_cell_112 : decode cX6_cell 112 = .ok (.iaload, 1) := by decide +kernel
theorem dX6_cell_113 : decode cX6_cell 113 = .ok (.ireturn, 1) := by decide +kernel
theorem dX6_zone_0 : decode cX6_zone 0 = .ok (.iload_n 1, 1) := by decide +kernel
theorem dX6_zone_1 : decode cX6_zone 1 = .ok (.invokestatic 126, 3) := by decide +kernel
theorem dX6_zone_4 : decode cX6_zone 4 = .ok (.ifCond .eq 19, 3) := by decide +kernel
theorem dX6_zone_7 : decode cX6_zone 7 = .ok (.iload_n 2, 1) := by decide +kernel
theorem dX6_zone_8 : decode cX6_zone 8 = .ok (.iconst 0, 1) := by decide +kernel
theorem dX6_zone_9 : decode cX6_zone 9 = .ok (.iconst 2, 1) := by decide +kernel
theorem dX6_zone_10 : decode cX6_zone 10 = .ok (.invokestatic 72, 3) := by decide +kernel
theorem dX6_zone_13 : decode cX6_zone 13 = .ok (.ifCond .eq 10, 3) := by decide +kernel
theorem dX6_zone_16 : decode cX6_zone 16 = .ok (.iload_n 3, 1) := by decide +kernel
theorem dX6_zone_17 : decode cX6_zone 17 = .ok (.invokestatic 129, 3) := by decide +kernel
theorem dX6_zone_20 : decode cX6_zone 20 = .ok (.ifCond .ne 5, 3) := by decide +kernel
theorem dX6_zone_23 : decode cX6_zone 23 = .ok (.iconst (-1), 1) := by decide +kernel
theorem dX6_zone_24 : decode cX6_zone 24 = .ok (.ireturn, 1) := by decide +kernel
theorem dX6_zone_25 : decode cX6_zone 25 = .ok (.iload_n 2, 1) := by decide +kernel
theorem dX6_zone_26 : decode cX6_zone 26 = .ok (.ifCond .ne 13, 3) := by decide +kernel
theorem dX6_zone_29 : decode cX6_zone 29 = .ok (.aload_n 0, 1) := by decide +kernel
theorem dX6_zone_30 : decode cX6_zone 30 = .ok (.getfield 19, 3) := by decide +kernel
theorem dX6_zone_33 : decode cX6_zone 33 = .ok (.getfield 132, 3) := by decide +kernel
theorem dX6_zone_36 : decode cX6_zone 36 = .ok (.goto 25, 3) := by decide +kernel
theorem dX6_zone_39 : decode cX6_zone 39 = .ok (.iload_n 2, 1) := by decide +kernel
theorem dX6_zone_40 : decode cX6_zone 40 = .ok (.iconst 1, 1) := by decide +kernel
theorem dX6_zone_41 : decode cX6_zone 41 = .ok (.if_icmp .ne 13, 3) := by decide +kernel
theorem dX6_zone_44 : decode cX6_zone 44 = .ok (.aload_n 0, 1) := by decide +kernel
theorem dX6_zone_45 : decode cX6_zone 45 = .ok (.getfield 19, 3) := by decide +kernel
theorem dX6_zone_48 : decode cX6_zone 48 = .ok (.getfield 135, 3) := by decide +kernel
theorem dX6_zone_51 : decode cX6_zone 51 = .ok (.goto 10, 3) := by decide +kernel
theorem dX6_zone_54 : decode cX6_zone 54 = .ok (.aload_n 0, 1) := by decide +kernel
theorem dX6_zone_55 : decode cX6_zone 55 = .ok (.getfield 19, 3) := by decide +kernel
theorem dX6_zone_58 : decode cX6_zone 58 = .ok (.getfield 138, 3) := by decide +kernel
theorem dX6_zone_61 : decode cX6_zone 61 = .ok (.astore 4, 2) := by decide +kernel
theorem dX6_zone_63 : decode cX6_zone 63 = .ok (.aload 4, 2) := by decide +kernel
theorem dX6_zone_65 : decode cX6_zone 65 = .ok (.iload_n 1, 1) := by decide +kernel
theorem dX6_zone_66 : decode cX6_zone 66 = .ok (.iaload, 1) := by decide +kernel
theorem dX6_zone_67 : decode cX6_zone 67 = .ok (.istore 5, 2) := by decide +kernel
theorem dX6_zone_69 : decode cX6_zone 69 = .ok (.aload 4, 2) := by decide +kernel
theorem dX6_zone_71 : decode cX6_zone 71 = .ok (.iload_n 1, 1) := by decide +kernel
theorem dX6_zone_72 : decode cX6_zone 72 = .ok (.iload_n 3, 1) := by decide +kernel
theorem dX6_zone_73 : decode cX6_zone 73 = .ok (.iastore, 1) := by decide +kernel
theorem dX6_zone_74 : decode cX6_zone 74 = .ok (.iload 5, 2) := by decide +kernel
theorem dX6_zone_76 : decode cX6_zone 76 = .ok (.ireturn, 1) := by decide +kernel
theorem dX6_load_0 : decode cX6_load 0 = .ok (.iload_n 1, 1) := by decide +kernel
theorem dX6_load_1 : decode cX6_load 1 = .ok (.iconst 0, 1) := by decide +kernel
theorem dX6_load_2 : decode cX6_load 2 = .ok (.iconst 4, 1) := by decide +kernel
theorem dX6_load_3 : decode cX6_load 3 = .ok (.invokestatic 72, 3) := by decide +kernel
theorem dX6_load_6 : decode cX6_load 6 = .ok (.ifCond .eq 11, 3) := by decide +kernel
theorem dX6_load_9 : decode cX6_load 9 = .ok (.iload_n 2, 1) := by decide +kernel
theorem dX6_load_10 : decode cX6_load 10 = .ok (.iload_n 3, 1) := by decide +kernel
theorem dX6_load_11 : decode cX6_load 11 = .ok (.invokestatic 101, 3) := by decide +kernel
theorem dX6_load_14 : decode cX6_load 14 = .ok (.ifCond .ne 5, 3) := by decide +kernel
theorem dX6_load_17 : decode cX6_load 17 = .ok (.iconst (-1), 1) := by decide +kernel
theorem dX6_load_18 : decode cX6_load 18 = .ok (.ireturn, 1) := by decide +kernel
theorem dX6_load_19 : decode cX6_load 19 = .ok (.iload_n 2, 1) := by decide +kernel
theorem dX6_load_20 : decode cX6_load 20 = .ok (.iload_n 3, 1) := by decide +kernel
theorem dX6_load_21 : decode cX6_load 21 = .ok (.invokestatic 105, 3) := by decide +kernel
theorem dX6_load_24 : decode cX6_load 24 = .ok (.istore 4, 2) := by decide +kernel
theorem dX6_load_26 : decode cX6_load 26 = .ok (.aload_n 0, 1) := by decide +kernel
theorem dX6_load_27 : decode cX6_load 27 = .ok (.getfield 19, 3) := by decide +kernel
theorem dX6_load_30 : decode cX6_load 30 = .ok (.iload 4, 2) := by decide +kernel
theorem dX6_load_32 : decode cX6_load 32 = .ok (.invokevirtual 109, 3) := by decide +kernel
theorem dX6_load_35 : decode cX6_load 35 = .ok (.ifCond .eq 6, 3) := by decide +kernel
theorem dX6_load_38 : decode cX6_load 38 = .ok (.bipush (-2), 2) := by decide +kernel
theorem dX6_load_40 : decode cX6_load 40 = .ok (.ireturn, 1) := by decide +kernel
theorem dX6_load_41 : decode cX6_load 41 = .ok (.iload_n 1, 1) := by decide +kernel
theorem dX6_load_42 : decode cX6_load 42 = .ok (.tableswitch 58 0 3 #[30, 37, 44, 51], 30) := by decide +kernel
theorem dX6_load_72 : decode cX6_load 72 = .ok (.aload_n 0, 1) := by decide +kernel
theorem dX6_load_73 : decode cX6_load 73 = .ok (.iload 4, 2) := by decide +kernel
theorem dX6_load_75 : decode cX6_load 75 = .ok (.invokevirtual 141, 3) := by decide +kernel
theorem dX6_load_78 : decode cX6_load 78 = .ok (.ireturn, 1) := by decide +kernel
theorem dX6_load_79 : decode cX6_load 79 = .ok (.aload_n 0, 1) := by decide +kernel
theorem dX6_load_80 : decode cX6_load 80 = .ok (.iload 4, 2) := by decide +kernel
theorem dX6_load_82 : decode cX6_load 82 = .ok (.invokevirtual 144, 3) := by decide +kernel
theorem dX6_load_85 : decode cX6_load 85 = .ok (.ireturn, 1) := by decide +kernel
theorem dX6_load_86 : decode cX6_load 86 = .ok (.aload_n 0, 1) := by decide +kernel
theorem dX6_load_87 : decode cX6_load 87 = .ok (.iload 4, 2) := by decide +kernel
theorem dX6_load_89 : decode cX6_load 89 = .ok (.invokevirtual 147, 3) := by decide +kernel
theorem dX6_load_92 : decode cX6_load 92 = .ok (.ireturn, 1) := by decide +kernel
theorem dX6_load_93 : decode cX6_load 93 = .ok (.aload_n 0, 1) := by decide +kernel
theorem dX6_load_94 : decode cX6_load 94 = .ok (.iload 4, 2) := by decide +kernel
theorem dX6_load_96 : decode cX6_load 96 = .ok (.invokevirtual 150, 3) := by decide +kernel
theorem dX6_load_99 : decode cX6_load 99 = .ok (.ireturn, 1) := by decide +kernel
theorem dX6_load_100 : decode cX6_load 100 = .ok (.aload_n 0, 1) := by decide +kernel
theorem dX6_load_101 : decode cX6_load 101 = .ok (.iload 4, 2) := by decide +kernel
theorem dX6_load_103 : decode cX6_load 103 = .ok (.invokevirtual 153, 3) := by decide +kernel
theorem dX6_load_106 : decode cX6_load 106 = .ok (.ireturn, 1) := by decide +kernel
theorem dX6_loadOfPart_0 : decode cX6_loadOfPart 0 = .ok (.aload_n 0, 1) := by decide +kernel
theorem dX6_loadOfPart_1 : decode cX6_loadOfPart 1 = .ok (.dup, 1) := by decide +kernel
theorem dX6_loadOfPart_2 : decode cX6_loadOfPart 2 = .ok (.getfield 68, 3) := by decide +kernel
theorem dX6_loadOfPart_5 : decode cX6_loadOfPart 5 = .ok (.lconst 1, 1) := by decide +kernel
theorem dX6_loadOfPart_6 : decode cX6_loadOfPart 6 = .ok (.ladd, 1) := by decide +kernel
theorem dX6_loadOfPart_7 : decode cX6_loadOfPart 7 = .ok (.putfield 68, 3) := by decide +kernel
theorem dX6_loadOfPart_10 : decode cX6_loadOfPart 10 = .ok (.bipush 10, 2) := by decide +kernel
theorem dX6_loadOfPart_12 : decode cX6_loadOfPart 12 = .ok (.iload_n 1, 1) := by decide +kernel
theorem dX6_loadOfPart_13 : decode cX6_loadOfPart 13 = .ok (.bipush 8, 2) := by decide +kernel
theorem dX6_loadOfPart_15 : decode cX6_loadOfPart 15 = .ok (.idiv, 1) := by decide +kernel
theorem dX6_loadOfPart_16 : decode cX6_loadOfPart 16 = .ok (.iadd, 1) := by decide +kernel
theorem dX6_loadOfPart_17 : decode cX6_loadOfPart 17 = .ok (.ireturn, 1) := by decide +kernel
theorem dX6_loadOfCell_0 : decode cX6_loadOfCell 0 = .ok (.aload_n 0, 1) := by decide +kernel
theorem dX6_loadOfCell_1 : decode cX6_loadOfCell 1 = .ok (.dup, 1) := by decide +kernel
theorem dX6_loadOfCell_2 : decode cX6_loadOfCell 2 = .ok (.getfield 68, 3) := by decide +kernel
theorem dX6_loadOfCell_5 : decode cX6_loadOfCell 5 = .ok (.ldc2_w 156, 3) := by decide +kernel
theorem dX6_loadOfCell_8 : decode cX6_loadOfCell 8 = .ok (.ladd, 1) := by decide +kernel
theorem dX6_loadOfCell_9 : decode cX6_loadOfCell 9 = .ok (.putfield 68, 3) := by decide +kernel
theorem dX6_loadOfCell_12 : decode cX6_loadOfCell 12 = .ok (.aload_n 0, 1) := by decide +kernel
theorem dX6_loadOfCell_13 : decode cX6_loadOfCell 13 = .ok (.iload_n 1, 1) := by decide +kernel
theorem dX6_loadOfCell_14 : decode cX6_loadOfCell 14 = .ok (.invokevirtual 141, 3) := by decide +kernel
theorem dX6_loadOfCell_17 : decode cX6_loadOfCell 17 = .ok (.aload_n 0, 1) := by decide +kernel
theorem dX6_loadOfCell_18 : decode cX6_loadOfCell 18 = .ok (.getfield 19, 3) := by decide +kernel
theorem dX6_loadOfCell_21 : decode cX6_loadOfCell 21 = .ok (.iload_n 1, 1) := by decide +kernel
theorem dX6_loadOfCell_22 : decode cX6_loadOfCell 22 = .ok (.invokevirtual 119, 3) := by decide +kernel
theorem dX6_loadOfCell_25 : decode cX6_loadOfCell 25 = .ok (.bipush 100, 2) := by decide +kernel
theorem dX6_loadOfCell_27 : decode cX6_loadOfCell 27 = .ok (.idiv, 1) := by decide +kernel
theorem dX6_loadOfCell_28 : decode cX6_loadOfCell 28 = .ok (.iadd, 1) := by decide +kernel
theorem dX6_loadOfCell_29 : decode cX6_loadOfCell 29 = .ok (.ireturn, 1) := by decide +kernel
theorem dX6_loadOfDrained_0 : decode cX6_loadOfDrained 0 = .ok (.aload_n 0, 1) := by decide +kernel
theorem dX6_loadOfDrained_1 : decode cX6_loadOfDrained 1 = .ok (.dup, 1) := by decide +kernel
theorem dX6_loadOfDrained_2 : decode cX6_loadOfDrained 2 = .ok (.getfield 68, 3) := by decide +kernel
theorem dX6_loadOfDrained_5 : decode cX6_loadOfDrained 5 = .ok (.ldc2_w 158, 3) := by decide +kernel
theorem dX6_loadOfDrained_8 : decode cX6_loadOfDrained 8 = .ok (.ladd, 1) := by decide +kernel
theorem dX6_loadOfDrained_9 : decode cX6_loadOfDrained 9 = .ok (.putfield 68, 3) := by decide +kernel
theorem dX6_loadOfDrained_12 : decode cX6_loadOfDrained 12 = .ok (.aload_n 0, 1) := by decide +kernel
theorem dX6_loadOfDrained_13 : decode cX6_loadOfDrained 13 = .ok (.iload_n 1, 1) := by decide +kernel
theorem dX6_loadOfDrained_14 : decode cX6_loadOfDrained 14 = .ok (.invokevirtual 144, 3) := by decide +kernel
theorem dX6_loadOfDrained_17 : decode cX6_loadOfDrained 17 = .ok (.istore_n 2, 1) := by decide +kernel
theorem dX6_loadOfDrained_18 : decode cX6_loadOfDrained 18 = .ok (.iload_n 2, 1) := by decide +kernel
theorem dX6_loadOfDrained_19 : decode cX6_loadOfDrained 19 = .ok (.iload_n 2, 1) := by decide +kernel
theorem dX6_loadOfDrained_20 : decode cX6_loadOfDrained 20 = .ok (.iconst 3, 1) := by decide +kernel
theorem dX6_loadOfDrained_21 : decode cX6_loadOfDrained 21 = .ok (.idiv, 1) := by decide +kernel
theorem dX6_loadOfDrained_22 : decode cX6_loadOfDrained 22 = .ok (.isub, 1) := by decide +kernel
theorem dX6_loadOfDrained_23 : decode cX6_loadOfDrained 23 = .ok (.ireturn, 1) := by decide +kernel
theorem dX6_loadOfCarried_0 : decode cX6_loadOfCarried 0 = .ok (.aload_n 0, 1) := by decide +kernel
theorem dX6_loadOfCarried_1 : decode cX6_loadOfCarried 1 = .ok (.dup, 1) := by decide +kernel
theorem dX6_loadOfCarried_2 : decode cX6_loadOfCarried 2 = .ok (.getfield 68, 3) := by decide +kernel
theorem dX6_loadOfCarried_5 : decode cX6_loadOfCarried 5 = .ok (.ldc2_w 160, 3) := by decide +kernel
theorem dX6_loadOfCarried_8 : decode cX6_loadOfCarried 8 = .ok (.ladd, 1) := by decide +kernel
theorem dX6_loadOfCarried_9 : decode cX6_loadOfCarried 9 = .ok (.putfield 68, 3) := by decide +kernel
theorem dX6_loadOfCarried_12 : decode cX6_loadOfCarried 12 = .ok (.aload_n 0, 1) := by decide +kernel
theorem dX6_loadOfCarried_13 : decode cX6_loadOfCarried 13 = .ok (.iload_n 1, 1) := by decide +kernel
theorem dX6_loadOfCarried_14 : decode cX6_loadOfCarried 14 = .ok (.invokevirtual 144, 3) := by decide +kernel
theorem dX6_loadOfCarried_17 : decode cX6_loadOfCarried 17 = .ok (.iconst 2, 1) := by decide +kernel
theorem dX6_loadOfCarried_18 : decode cX6_loadOfCarried 18 = .ok (.idiv, 1) := by decide +kernel
theorem dX6_loadOfCarried_19 : decode cX6_loadOfCarried 19 = .ok (.ireturn, 1) := by decide +kernel
theorem dX6_loadOfCrack_0 : decode cX6_loadOfCrack 0 = .ok (.aload_n 0, 1) := by decide +kernel
theorem dX6_loadOfCrack_1 : decode cX6_loadOfCrack 1 = .ok (.dup, 1) := by decide +kernel
theorem dX6_loadOfCrack_2 : decode cX6_loadOfCrack 2 = .ok (.getfield 68, 3) := by decide +kernel
theorem dX6_loadOfCrack_5 : decode cX6_loadOfCrack 5 = .ok (.ldc2_w 162, 3) := by decide +kernel
theorem dX6_loadOfCrack_8 : decode cX6_loadOfCrack 8 = .ok (.ladd, 1) := by decide +kernel
theorem dX6_loadOfCrack_9 : decode cX6_loadOfCrack 9 = .ok (.putfield 68, 3) := by decide +kernel
theorem dX6_loadOfCrack_12 : decode cX6_loadOfCrack 12 = .ok (.aload_n 0, 1) := by decide +kernel
theorem dX6_loadOfCrack_13 : decode cX6_loadOfCrack 13 = .ok (.iload_n 1, 1) := by decide +kernel
theorem dX6_loadOfCrack_14 : decode cX6_loadOfCrack 14 = .ok (.invokevirtual 141, 3) := by decide +kernel
theorem dX6_loadOfCrack_17 : decode cX6_loadOfCrack 17 = .ok (.aload_n 0, 1) := by decide +kernel
theorem dX6_loadOfCrack_18 : decode cX6_loadOfCrack 18 = .ok (.getfield 19, 3) := by decide +kernel
theorem dX6_loadOfCrack_21 : decode cX6_loadOfCrack 21 = .ok (.iload_n 1, 1) := by decide +kernel
theorem dX6_loadOfCrack_22 : decode cX6_loadOfCrack 22 = .ok (.invokevirtual 164, 3) := by decide +kernel
theorem dX6_loadOfCrack_25 : decode cX6_loadOfCrack 25 = .ok (.bipush 10, 2) := by decide +kernel
theorem dX6_loadOfCrack_27 : decode cX6_loadOfCrack 27 = .ok (.idiv, 1) := by decide +kernel
theorem dX6_loadOfCrack_28 : decode cX6_loadOfCrack 28 = .ok (.isub, 1) := by decide +kernel
theorem dX6_loadOfCrack_29 : decode cX6_loadOfCrack 29 = .ok (.ireturn, 1) := by decide +kernel
theorem dX6_lake_0 : decode cX6_lake 0 = .ok (.iload_n 1, 1) := by decide +kernel
theorem dX6_lake_1 : decode cX6_lake 1 = .ok (.iconst 0, 1) := by decide +kernel
theorem dX6_lake_2 : decode cX6_lake 2 = .ok (.bipush 6, 2) := by decide +kernel
theorem dX6_lake_4 : decode cX6_lake 4 = .ok (.invokestatic 72, 3) := by decide +kernel
theorem dX6_lake_7 : decode cX6_lake 7 = .ok (.ifCond .ne 5, 3) := by decide +kernel
theorem dX6_lake_10 : decode cX6_lake 10 = .ok (.iconst (-1), 1) := by decide +kernel
theorem dX6_lake_11 : decode cX6_lake 11 = .ok (.ireturn, 1) := by decide +kernel
theorem dX6_lake_12 : decode cX6_lake 12 = .ok (.aload_n 0, 1) := by decide +kernel
theorem dX6_lake_13 : decode cX6_lake 13 = .ok (.getfield 19, 3) := by decide +kernel
theorem dX6_lake_16 : decode cX6_lake 16 = .ok (.getfield 91, 3) := by decide +kernel
theorem dX6_lake_19 : decode cX6_lake 19 = .ok (.istore_n 2, 1) := by decide +kernel
theorem dX6_lake_20 : decode cX6_lake 20 = .ok (.aload_n 0, 1) := by decide +kernel
theorem dX6_lake_21 : decode cX6_lake 21 = .ok (.getfield 19, 3) := by decide +kernel
theorem dX6_lake_24 : decode cX6_lake 24 = .ok (.iload_n 1, 1) := by decide +kernel
theorem dX6_lake_25 : decode cX6_lake 25 = .ok (.putfield 91, 3) := by decide +kernel
theorem dX6_lake_28 : decode cX6_lake 28 = .ok (.iload_n 2, 1) := by decide +kernel
theorem dX6_lake_29 : decode cX6_lake 29 = .ok (.ireturn, 1) := by decide +kernel
theorem dX6_sweep_0 : decode cX6_sweep 0 = .ok (.iload_n 1, 1) := by decide +kernel
theorem dX6_sweep_1 : decode cX6_sweep 1 = .ok (.iconst 1, 1) := by decide +kernel
theorem dX6_sweep_2 : decode cX6_sweep 2 = .ok (.bipush 100, 2) := by decide +kernel
theorem dX6_sweep_4 : decode cX6_sweep 4 = .ok (.invokestatic 72, 3) := by decide +kernel
theorem dX6_sweep_7 : decode cX6_sweep 7 = .ok (.ifCond .ne 5, 3) := by decide +kernel
theorem dX6_sweep_10 : decode cX6_sweep 10 = .ok (.iconst (-1), 1) := by decide +kernel
theorem dX6_sweep_11 : decode cX6_sweep 11 = .ok (.ireturn, 1) := by decide +kernel
theorem dX6_sweep_12 : decode cX6_sweep 12 = .ok (.aload_n 0, 1) := by decide +kernel
theorem dX6_sweep_13 : decode cX6_sweep 13 = .ok (.getfield 19, 3) := by decide +kernel
theorem dX6_sweep_16 : decode cX6_sweep 16 = .ok (.iload_n 1, 1) := by decide +kernel
theorem dX6_sweep_17 : decode cX6_sweep 17 = .ok (.invokevirtual 167, 3) := by decide +kernel
theorem dX6_sweep_20 : decode cX6_sweep 20 = .ok (.aload_n 0, 1) := by decide +kernel
theorem dX6_sweep_21 : decode cX6_sweep 21 = .ok (.getfield 19, 3) := by decide +kernel
theorem dX6_sweep_24 : decode cX6_sweep 24 = .ok (.invokevirtual 171, 3) := by decide +kernel
theorem dX6_sweep_27 : decode cX6_sweep 27 = .ok (.ireturn, 1) := by decide +kernel
theorem dX6_seep_0 : decode cX6_seep 0 = .ok (.aload_n 0, 1) := by decide +kernel
theorem dX6_seep_1 : decode cX6_seep 1 = .ok (.getfield 19, 3) := by decide +kernel
theorem dX6_seep_4 : decode cX6_seep 4 = .ok (.invokevirtual 174, 3) := by decide +kernel
theorem dX6_seep_7 : decode cX6_seep 7 = .ok (.ireturn, 1) := by decide +kernel
theorem dX6_dry_0 : decode cX6_dry 0 = .ok (.aload_n 0, 1) := by decide +kernel
theorem dX6_dry_1 : decode cX6_dry 1 = .ok (.getfield 19, 3) := by decide +kernel
theorem dX6_dry_4 : decode cX6_dry 4 = .ok (.invokevirtual 177, 3) := by decide +kernel
theorem dX6_dry_7 : decode cX6_dry 7 = .ok (.ireturn, 1) := by decide +kernel
theorem dX6_least_0 : decode cX6_least 0 = .ok (.iload_n 1, 1) := by decide +kernel
theorem dX6_least_1 : decode cX6_least 1 = .ok (.bipush (-2), 2) := by decide +kernel
theorem dX6_least_3 : decode cX6_least 3 = .ok (.bipush 7, 2) := by decide +kernel
theorem dX6_least_5 : decode cX6_least 5 = .ok (.invokestatic 72, 3) := by decide +kernel
theorem dX6_least_8 : decode cX6_least 8 = .ok (.ifCond .ne 5, 3) := by decide +kernel
theorem dX6_least_11 : decode cX6_least 11 = .ok (.iconst (-1), 1) := by decide +kernel
theorem dX6_least_12 : decode cX6_least 12 = .ok (.ireturn, 1) := by decide +kernel
theorem dX6_least_13 : decode cX6_least 13 = .ok (.aload_n 0, 1) := by decide +kernel
theorem dX6_least_14 : decode cX6_least 14 = .ok (.getfield 46, 3) := by decide +kernel
theorem dX6_least_17 : decode cX6_least 17 = .ok (.aload_n 0, 1) := by decide +kernel
theorem dX6_least_18 : decode cX6_least 18 = .ok (.getfield 19, 3) := by decide +kernel
theorem dX6_least_21 : decode cX6_least 21 = .ok (.aload_n 0, 1) := by decide +kernel
theorem dX6_least_22 : decode cX6_least 22 = .ok (.getfield 39, 3) := by decide +kernel
theorem dX6_least_25 : decode cX6_least 25 = .ok (.iconst 0, 1) := by decide +kernel
theorem dX6_least_26 : decode cX6_least 26 = .ok (.invokevirtual 180, 3) := by decide +kernel
theorem dX6_least_29 : decode cX6_least 29 = .ok (.aload_n 0, 1) := by decide +kernel
theorem dX6_least_30 : decode cX6_least 30 = .ok (.getfield 46, 3) := by decide +kernel
theorem dX6_least_33 : decode cX6_least 33 = .ok (.iconst 0, 1) := by decide +kernel
theorem dX6_least_34 : decode cX6_least 34 = .ok (.invokevirtual 184, 3) := by decide +kernel
theorem dX6_least_37 : decode cX6_least 37 = .ok (.aload_n 0, 1) := by decide +kernel
theorem dX6_least_38 : decode cX6_least 38 = .ok (.getfield 46, 3) := by decide +kernel
theorem dX6_least_41 : decode cX6_least 41 = .ok (.getfield 187, 3) := by decide +kernel
theorem dX6_least_44 : decode cX6_least 44 = .ok (.ifCond .ne 6, 3) := by decide +kernel
theorem dX6_least_47 : decode cX6_least 47 = .ok (.bipush (-9), 2) := by decide +kernel
theorem dX6_least_49 : decode cX6_least 49 = .ok (.ireturn, 1) := by decide +kernel
theorem dX6_least_50 : decode cX6_least 50 = .ok (.iload_n 1, 1) := by decide +kernel
theorem dX6_least_51 : decode cX6_least 51 = .ok (.iconst (-1), 1) := by decide +kernel
theorem dX6_least_52 : decode cX6_least 52 = .ok (.if_icmp .ne 11, 3) := by decide +kernel
theorem dX6_least_55 : decode cX6_least 55 = .ok (.aload_n 0, 1) := by decide +kernel
theorem dX6_least_56 : decode cX6_least 56 = .ok (.getfield 46, 3) := by decide +kernel
theorem dX6_least_59 : decode cX6_least 59 = .ok (.getfield 191, 3) := by decide +kernel
theorem dX6_least_62 : decode cX6_least 62 = .ok (.ireturn, 1) := by decide +kernel
theorem dX6_least_63 : decode cX6_least 63 = .ok (.iload_n 1, 1) := by decide +kernel
theorem dX6_least_64 : decode cX6_least 64 = .ok (.bipush (-2), 2) := by decide +kernel
theorem dX6_least_66 : decode cX6_least 66 = .ok (.if_icmp .ne 11, 3) := by decide +kernel
theorem dX6_least_69 : decode cX6_least 69 = .ok (.aload_n 0, 1) := by decide +kernel
theorem dX6_least_70 : decode cX6_least 70 = .ok (.getfield 46, 3) := by decide +kernel
theorem dX6_least_73 : decode cX6_least 73 = .ok (.getfield 194, 3) := by decide +kernel
theorem dX6_least_76 : decode cX6_least 76 = .ok (.ireturn, 1) := by decide +kernel
theorem dX6_least_77 : decode cX6_least 77 = .ok (.iload_n 1, 1) := by decide +kernel
theorem dX6_least_78 : decode cX6_least 78 = .ok (.aload_n 0, 1) := by decide +kernel
theorem dX6_least_79 : decode cX6_least 79 = .ok (.getfield 46, 3) := by decide +kernel
theorem dX6_least_82 : decode cX6_least 82 = .ok (.getfield 194, 3) := by decide +kernel
theorem dX6_least_85 : decode cX6_least 85 = .ok (.if_icmp .ge 8, 3) := by decide +kernel
theorem dX6_least_88 : decode cX6_least 88 = .ok (.bipush (-9), 2) := by decide +kernel
theorem dX6_least_90 : decode cX6_least 90 = .ok (.goto 12, 3) := by decide +kernel
theorem dX6_least_93 : decode cX6_least 93 = .ok (.aload_n 0, 1) := by decide +kernel
theorem dX6_least_94 : decode cX6_least 94 = .ok (.getfield 46, 3) := by decide +kernel
theorem dX6_least_97 : decode cX6_least 97 = .ok (.getfield 197, 3) := by decide +kernel
theorem dX6_least_100 : decode cX6_least 100 = .ok (.iload_n 1, 1) := by decide +kernel
theorem dX6_least_101 : decode cX6_least 101 = .ok (.iaload, 1) := by decide +kernel
theorem dX6_least_102 : decode cX6_least 102 = .ok (.ireturn, 1) := by decide +kernel
theorem dX6_ways_0 : decode cX6_ways 0 = .ok (.iload_n 1, 1) := by decide +kernel
theorem dX6_ways_1 : decode cX6_ways 1 = .ok (.ifCond .ge 5, 3) := by decide +kernel
theorem dX6_ways_4 : decode cX6_ways 4 = .ok (.iconst (-1), 1) := by decide +kernel
theorem dX6_ways_5 : decode cX6_ways 5 = .ok (.ireturn, 1) := by decide +kernel
theorem dX6_ways_6 : decode cX6_ways 6 = .ok (.aload_n 0, 1) := by decide +kernel
theorem dX6_ways_7 : decode cX6_ways 7 = .ok (.getfield 46, 3) := by decide +kernel
theorem dX6_ways_10 : decode cX6_ways 10 = .ok (.aload_n 0, 1) := by decide +kernel
theorem dX6_ways_11 : decode cX6_ways 11 = .ok (.getfield 19, 3) := by decide +kernel
theorem dX6_ways_14 : decode cX6_ways 14 = .ok (.aload_n 0, 1) := by decide +kernel
theorem dX6_ways_15 : decode cX6_ways 15 = .ok (.getfield 39, 3) := by decide +kernel
theorem dX6_ways_18 : decode cX6_ways 18 = .ok (.iconst 0, 1) := by decide +kernel
theorem dX6_ways_19 : decode cX6_ways 19 = .ok (.invokevirtual 180, 3) := by decide +kernel
theorem dX6_ways_22 : decode cX6_ways 22 = .ok (.aload_n 0, 1) := by decide +kernel
theorem dX6_ways_23 : decode cX6_ways 23 = .ok (.getfield 46, 3) := by decide +kernel
theorem dX6_ways_26 : decode cX6_ways 26 = .ok (.iload_n 1, 1) := by decide +kernel
theorem dX6_ways_27 : decode cX6_ways 27 = .ok (.invokevirtual 184, 3) := by decide +kernel
theorem dX6_ways_30 : decode cX6_ways 30 = .ok (.aload_n 0, 1) := by decide +kernel
theorem dX6_ways_31 : decode cX6_ways 31 = .ok (.getfield 46, 3) := by decide +kernel
theorem dX6_ways_34 : decode cX6_ways 34 = .ok (.getfield 200, 3) := by decide +kernel
theorem dX6_ways_37 : decode cX6_ways 37 = .ok (.ireturn, 1) := by decide +kernel
theorem dX6_filter_0 : decode cX6_filter 0 = .ok (.iload_n 1, 1) := by decide +kernel
theorem dX6_filter_1 : decode cX6_filter 1 = .ok (.iconst 2, 1) := by decide +kernel
theorem dX6_filter_2 : decode cX6_filter 2 = .ok (.bipush 9, 2) := by decide +kernel
theorem dX6_filter_4 : decode cX6_filter 4 = .ok (.invokestatic 72, 3) := by decide +kernel
theorem dX6_filter_7 : decode cX6_filter 7 = .ok (.ifCond .ne 5, 3) := by decide +kernel
theorem dX6_filter_10 : decode cX6_filter 10 = .ok (.iconst (-1), 1) := by decide +kernel
theorem dX6_filter_11 : decode cX6_filter 11 = .ok (.ireturn, 1) := by decide +kernel
theorem dX6_filter_12 : decode cX6_filter 12 = .ok (.aload_n 0, 1) := by decide +kernel
theorem dX6_filter_13 : decode cX6_filter 13 = .ok (.getfield 64, 3) := by decide +kernel
theorem dX6_filter_16 : decode cX6_filter 16 = .ok (.istore_n 2, 1) := by decide +kernel
theorem dX6_filter_17 : decode cX6_filter 17 = .ok (.aload_n 0, 1) := by decide +kernel
theorem dX6_filter_18 : decode cX6_filter 18 = .ok (.iload_n 1, 1) := by decide +kernel
theorem dX6_filter_19 : decode cX6_filter 19 = .ok (.putfield 64, 3) := by decide +kernel
theorem dX6_filter_22 : decode cX6_filter 22 = .ok (.iload_n 2, 1) := by decide +kernel
theorem dX6_filter_23 : decode cX6_filter 23 = .ok (.ireturn, 1) := by decide +kernel
theorem dX6_day_0 : decode cX6_day 0 = .ok (.aload_n 0, 1) := by decide +kernel
theorem dX6_day_1 : decode cX6_day 1 = .ok (.getfield 19, 3) := by decide +kernel
theorem dX6_day_4 : decode cX6_day 4 = .ok (.aload_n 0, 1) := by decide +kernel
theorem dX6_day_5 : decode cX6_day 5 = .ok (.getfield 64, 3) := by decide +kernel
theorem dX6_day_8 : decode cX6_day 8 = .ok (.invokevirtual 203, 3) := by decide +kernel
theorem dX6_day_11 : decode cX6_day 11 = .ok (.ireturn, 1) := by decide +kernel
theorem dX6_breach_0 : decode cX6_breach 0 = .ok (.aload_n 0, 1) := by decide +kernel
theorem dX6_breach_1 : decode cX6_breach 1 = .ok (.getfield 23, 3) := by decide +kernel
theorem dX6_breach_4 : decode cX6_breach 4 = .ok (.aload_n 0, 1) := by decide +kernel
theorem dX6_breach_5 : decode cX6_breach 5 = .ok (.getfield 19, 3) := by decide +kernel
theorem dX6_breach_8 : decode cX6_breach 8 = .ok (.invokevirtual 94, 3) := by decide +kernel
theorem dX6_breach_11 : decode cX6_breach 11 = .ok (.aload_n 0, 1) := by decide +kernel
theorem dX6_breach_12 : decode cX6_breach 12 = .ok (.getfield 23, 3) := by decide +kernel
theorem dX6_breach_15 : decode cX6_breach 15 = .ok (.aload_n 0, 1) := by decide +kernel
theorem dX6_breach_16 : decode cX6_breach 16 = .ok (.getfield 64, 3) := by decide +kernel
theorem dX6_breach_19 : decode cX6_breach 19 = .ok (.invokevirtual 206, 3) := by decide +kernel
theorem dX6_breach_22 : decode cX6_breach 22 = .ok (.ireturn, 1) := by decide +kernel
theorem dX6_highest_0 : decode cX6_highest 0 = .ok (.bipush 6, 2) := by decide +kernel
theorem dX6_highest_2 : decode cX6_highest 2 = .ok (.istore_n 1, 1) := by decide +kernel
theorem dX6_highest_3 : decode cX6_highest 3 = .ok (.iload_n 1, 1) := by decide +kernel
theorem dX6_highest_4 : decode cX6_highest 4 = .ok (.ifCond .lt 53, 3) := by decide +kernel
theorem dX6_highest_7 : decode cX6_highest 7 = .ok (.aload_n 0, 1) := by decide +kernel
theorem dX6_highest_8 : decode cX6_highest 8 = .ok (.getfield 23, 3) := by decide +kernel
theorem dX6_highest_11 : decode cX6_highest 11 = .ok (.aload_n 0, 1) := by decide +kernel
theorem dX6_highest_12 : decode cX6_highest 12 = .ok (.getfield 19, 3) := by decide +kernel
theorem dX6_highest_15 : decode cX6_highest 15 = .ok (.invokevirtual 94, 3) := by decide +kernel
theorem dX6_highest_18 : decode cX6_highest 18 = .ok (.aload_n 0, 1) := by decide +kernel
theorem dX6_highest_19 : decode cX6_highest 19 = .ok (.getfield 23, 3) := by decide +kernel
theorem dX6_highest_22 : decode cX6_highest 22 = .ok (.iload_n 1, 1) := by decide +kernel
theorem dX6_highest_23 : decode cX6_highest 23 = .ok (.putfield 91, 3) := by decide +kernel
theorem dX6_highest_26 : decode cX6_highest 26 = .ok (.aload_n 0, 1) := by decide +kernel
theorem dX6_highest_27 : decode cX6_highest 27 = .ok (.getfield 23, 3) := by decide +kernel
theorem dX6_highest_30 : decode cX6_highest 30 = .ok (.invokevirtual 209, 3) := by decide +kernel
theorem dX6_highest_33 : decode cX6_highest 33 = .ok (.aload_n 0, 1) := by decide +kernel
theorem dX6_highest_34 : decode cX6_highest 34 = .ok (.getfield 23, 3) := by decide +kernel
theorem dX6_highest_37 : decode cX6_highest 37 = .ok (.aload_n 0, 1) := by decide +kernel
theorem dX6_highest_38 : decode cX6_highest 38 = .ok (.getfield 64, 3) := by decide +kernel
theorem dX6_highest_41 : decode cX6_highest 41 = .ok (.invokevirtual 206, 3) := by decide +kernel
theorem dX6_highest_44 : decode cX6_highest 44 = .ok (.bipush (-9), 2) := by decide +kernel
theorem dX6_highest_46 : decode cX6_highest 46 = .ok (.if_icmp .ne 5, 3) := by decide +kernel
theorem dX6_highest_49 : decode cX6_highest 49 = .ok (.iload_n 1, 1) := by decide +kernel
theorem dX6_highest_50 : decode cX6_highest 50 = .ok (.ireturn, 1) := by decide +kernel
theorem dX6_highest_51 : decode cX6_highest 51 = .ok (.iinc 1 (-1), 3) := by decide +kernel
theorem dX6_highest_54 : decode cX6_highest 54 = .ok (.goto (-51), 3) := by decide +kernel
theorem dX6_highest_57 : decode cX6_highest 57 = .ok (.bipush (-9), 2) := by decide +kernel
theorem dX6_highest_59 : decode cX6_highest 59 = .ok (.ireturn, 1) := by decide +kernel
theorem dX6_pool_0 : decode cX6_pool 0 = .ok (.iload_n 1, 1) := by decide +kernel
theorem dX6_pool_1 : decode cX6_pool 1 = .ok (.iconst 0, 1) := by decide +kernel
theorem dX6_pool_2 : decode cX6_pool 2 = .ok (.iconst 5, 1) := by decide +kernel
theorem dX6_pool_3 : decode cX6_pool 3 = .ok (.invokestatic 72, 3) := by decide +kernel
theorem dX6_pool_6 : decode cX6_pool 6 = .ok (.ifCond .eq 10, 3) := by decide +kernel
theorem dX6_pool_9 : decode cX6_pool 9 = .ok (.iload_n 2, 1) := by decide +kernel
theorem dX6_pool_10 : decode cX6_pool 10 = .ok (.invokestatic 212, 3) := by decide +kernel
theorem dX6_pool_13 : decode cX6_pool 13 = .ok (.ifCond .ne 5, 3) := by decide +kernel
theorem dX6_pool_16 : decode cX6_pool 16 = .ok (.iconst (-1), 1) := by decide +kernel
theorem dX6_pool_17 : decode cX6_pool 17 = .ok (.ireturn, 1) := by decide +kernel
theorem dX6_pool_18 : decode cX6_pool 18 = .ok (.aload_n 0, 1) := by decide +kernel
theorem dX6_pool_19 : decode cX6_pool 19 = .ok (.getfield 53, 3) := by decide +kernel
theorem dX6_pool_22 : decode cX6_pool 22 = .ok (.iload_n 1, 1) := by decide +kernel
theorem dX6_pool_23 : decode cX6_pool 23 = .ok (.iload_n 2, 1) := by decide +kernel
theorem dX6_pool_24 : decode cX6_pool 24 = .ok (.invokevirtual 215, 3) := by decide +kernel
theorem dX6_pool_27 : decode cX6_pool 27 = .ok (.ireturn, 1) := by decide +kernel
theorem dX6_flood_0 : decode cX6_flood 0 = .ok (.iload_n 1, 1) := by decide +kernel
theorem dX6_flood_1 : decode cX6_flood 1 = .ok (.invokestatic 218, 3) := by decide +kernel
theorem dX6_flood_4 : decode cX6_flood 4 = .ok (.ifCond .eq 14, 3) := by decide +kernel
theorem dX6_flood_7 : decode cX6_flood 7 = .ok (.iload_n 2, 1) := by decide +kernel
theorem dX6_flood_8 : decode cX6_flood 8 = .ok (.iconst 0, 1) := by decide +kernel
theorem dX6_flood_9 : decode cX6_flood 9 = .ok (.sipush 999, 3) := by decide +kernel
theorem dX6_flood_12 : decode cX6_flood 12 = .ok (.invokestatic 72, 3) := by decide +kernel
theorem dX6_flood_15 : decode cX6_flood 15 = .ok (.ifCond .ne 5, 3) := by decide +kernel
theorem dX6_flood_18 : decode cX6_flood 18 = .ok (.iconst (-1), 1) := by decide +kernel
theorem dX6_flood_19 : decode cX6_flood 19 = .ok (.ireturn, 1) := by decide +kernel
theorem dX6_flood_20 : decode cX6_flood 20 = .ok (.aload_n 0, 1) := by decide +kernel
theorem dX6_flood_21 : decode cX6_flood 21 = .ok (.getfield 53, 3) := by decide +kernel
theorem dX6_flood_24 : decode cX6_flood 24 = .ok (.iload_n 1, 1) := by decide +kernel
theorem dX6_flood_25 : decode cX6_flood 25 = .ok (.iload_n 2, 1) := by decide +kernel
theorem dX6_flood_26 : decode cX6_flood 26 = .ok (.invokevirtual 221, 3) := by decide +kernel
theorem dX6_flood_29 : decode cX6_flood 29 = .ok (.ifCond .eq 15, 3) := by decide +kernel
theorem dX6_flood_32 : decode cX6_flood 32 = .ok (.aload_n 0, 1) := by decide +kernel
theorem dX6_flood_33 : decode cX6_flood 33 = .ok (.getfield 53, 3) := by decide +kernel
theorem dX6_flood_36 : decode cX6_flood 36 = .ok (.getfield 224, 3) := by decide +kernel
theorem dX6_flood_39 : decode cX6_flood 39 = .ok (.iload_n 1, 1) := by decide +kernel
theorem dX6_flood_40 : decode cX6_flood 40 = .ok (.iaload, 1) := by decide +kernel
theorem dX6_flood_41 : decode cX6_flood 41 = .ok (.goto 5, 3) := by decide +kernel
theorem dX6_flood_44 : decode cX6_flood 44 = .ok (.bipush (-3), 2) := by decide +kernel
theorem dX6_flood_46 : decode cX6_flood 46 = .ok (.ireturn, 1) := by decide +kernel
theorem dX6_ebb_0 : decode cX6_ebb 0 = .ok (.iload_n 1, 1) := by decide +kernel
theorem dX6_ebb_1 : decode cX6_ebb 1 = .ok (.invokestatic 218, 3) := by decide +kernel
theorem dX6_ebb_4 : decode cX6_ebb 4 = .ok (.ifCond .ne 5, 3) := by decide +kernel
theorem dX6_ebb_7 : decode cX6_ebb 7 = .ok (.iconst (-1), 1) := by decide +kernel
theorem dX6_ebb_8 : decode cX6_ebb 8 = .ok (.ireturn, 1) := by decide +kernel
theorem dX6_ebb_9 : decode cX6_ebb 9 = .ok (.aload_n 0, 1) := by decide +kernel
theorem dX6_ebb_10 : decode cX6_ebb 10 = .ok (.getfield 53, 3) := by decide +kernel
theorem dX6_ebb_13 : decode cX6_ebb 13 = .ok (.iload_n 1, 1) := by decide +kernel
theorem dX6_ebb_14 : decode cX6_ebb 14 = .ok (.invokevirtual 227, 3) := by decide +kernel
theorem dX6_ebb_17 : decode cX6_ebb 17 = .ok (.ireturn, 1) := by decide +kernel
theorem dX6_route_0 : decode cX6_route 0 = .ok (.iload_n 1, 1) := by decide +kernel
theorem dX6_route_1 : decode cX6_route 1 = .ok (.invokestatic 218, 3) := by decide +kernel
theorem dX6_route_4 : decode cX6_route 4 = .ok (.ifCond .eq 19, 3) := by decide +kernel
theorem dX6_route_7 : decode cX6_route 7 = .ok (.iload_n 2, 1) := by decide +kernel
theorem dX6_route_8 : decode cX6_route 8 = .ok (.invokestatic 212, 3) := by decide +kernel
theorem dX6_route_11 : decode cX6_route 11 = .ok (.ifCond .eq 12, 3) := by decide +kernel
theorem dX6_route_14 : decode cX6_route 14 = .ok (.iload_n 3, 1) := by decide +kernel
theorem dX6_route_15 : decode cX6_route 15 = .ok (.iconst 0, 1) := by decide +kernel
theorem dX6_route_16 : decode cX6_route 16 = .ok (.iconst 4, 1) := by decide +kernel
theorem dX6_route_17 : decode cX6_route 17 = .ok (.invokestatic 72, 3) := by decide +kernel
theorem dX6_route_20 : decode cX6_route 20 = .ok (.ifCond .ne 5, 3) := by decide +kernel
theorem dX6_route_23 : decode cX6_route 23 = .ok (.iconst (-1), 1) := by decide +kernel
theorem dX6_route_24 : decode cX6_route 24 = .ok (.ireturn, 1) := by decide +kernel
theorem dX6_route_25 : decode cX6_route 25 = .ok (.aload_n 0, 1) := by decide +kernel
theorem dX6_route_26 : decode cX6_route 26 = .ok (.getfield 53, 3) := by decide +kernel
theorem dX6_route_29 : decode cX6_route 29 = .ok (.iload_n 1, 1) := by decide +kernel
theorem dX6_route_30 : decode cX6_route 30 = .ok (.iload_n 2, 1) := by decide +kernel
theorem dX6_route_31 : decode cX6_route 31 = .ok (.invokevirtual 230, 3) := by decide +kernel
theorem dX6_route_34 : decode cX6_route 34 = .ok (.iload_n 3, 1) := by decide +kernel
theorem dX6_route_35 : decode cX6_route 35 = .ok (.tableswitch 69 0 3 #[29, 37, 45, 53], 29) := by decide +kernel
theorem dX6_route_64 : decode cX6_route 64 = .ok (.aload_n 0, 1) := by decide +kernel
theorem dX6_route_65 : decode cX6_route 65 = .ok (.getfield 53, 3) := by decide +kernel
theorem dX6_route_68 : decode cX6_route 68 = .ok (.getfield 234, 3) := by decide +kernel
theorem dX6_route_71 : decode cX6_route 71 = .ok (.ireturn, 1) := by decide +kernel
theorem dX6_route_72 : decode cX6_route 72 = .ok (.aload_n 0, 1) := by decide +kernel
theorem dX6_route_73 : decode cX6_route 73 = .ok (.getfield 53, 3) := by decide +kernel
theorem dX6_route_76 : decode cX6_route 76 = .ok (.getfield 237, 3) := by decide +kernel
theorem dX6_route_79 : decode cX6_route 79 = .ok (.ireturn, 1) := by decide +kernel
theorem dX6_route_80 : decode cX6_route 80 = .ok (.aload_n 0, 1) := by decide +kernel
theorem dX6_route_81 : decode cX6_route 81 = .ok (.getfield 53, 3) := by decide +kernel
theorem dX6_route_84 : decode cX6_route 84 = .ok (.getfield 240, 3) := by decide +kernel
theorem dX6_route_87 : decode cX6_route 87 = .ok (.ireturn, 1) := by decide +kernel
theorem dX6_route_88 : decode cX6_route 88 = .ok (.aload_n 0, 1) := by decide +kernel
theorem dX6_route_89 : decode cX6_route 89 = .ok (.getfield 53, 3) := by decide +kernel
theorem dX6_route_92 : decode cX6_route 92 = .ok (.invokevirtual 243, 3) := by decide +kernel
theorem dX6_route_95 : decode cX6_route 95 = .ok (.ifCond .eq 7, 3) := by decide +kernel
theorem dX6_route_98 : decode cX6_route 98 = .ok (.iconst 1, 1) := by decide +kernel
theorem dX6_route_99 : decode cX6_route 99 = .ok (.goto 4, 3) := by decide +kernel
theorem dX6_route_102 : decode cX6_route 102 = .ok (.iconst 0, 1) := by decide +kernel
theorem dX6_route_103 : decode cX6_route 103 = .ok (.ireturn, 1) := by decide +kernel
theorem dX6_route_104 : decode cX6_route 104 = .ok (.aload_n 0, 1) := by decide +kernel
theorem dX6_route_105 : decode cX6_route 105 = .ok (.getfield 53, 3) := by decide +kernel
theorem dX6_route_108 : decode cX6_route 108 = .ok (.getfield 247, 3) := by decide +kernel
theorem dX6_route_111 : decode cX6_route 111 = .ok (.ireturn, 1) := by decide +kernel
theorem dX6_best_0 : decode cX6_best 0 = .ok (.iload_n 1, 1) := by decide +kernel
theorem dX6_best_1 : decode cX6_best 1 = .ok (.iconst 0, 1) := by decide +kernel
theorem dX6_best_2 : decode cX6_best 2 = .ok (.iconst 1, 1) := by decide +kernel
theorem dX6_best_3 : decode cX6_best 3 = .ok (.invokestatic 72, 3) := by decide +kernel
theorem dX6_best_6 : decode cX6_best 6 = .ok (.ifCond .ne 5, 3) := by decide +kernel
theorem dX6_best_9 : decode cX6_best 9 = .ok (.iconst (-1), 1) := by decide +kernel
theorem dX6_best_10 : decode cX6_best 10 = .ok (.ireturn, 1) := by decide +kernel
theorem dX6_best_11 : decode cX6_best 11 = .ok (.iconst 0, 1) := by decide +kernel
theorem dX6_best_12 : decode cX6_best 12 = .ok (.istore_n 2, 1) := by decide +kernel
theorem dX6_best_13 : decode cX6_best 13 = .ok (.iconst (-1), 1) := by decide +kernel
theorem dX6_best_14 : decode cX6_best 14 = .ok (.istore_n 3, 1) := by decide +kernel
theorem dX6_best_15 : decode cX6_best 15 = .ok (.iconst 0, 1) := by decide +kernel
theorem dX6_best_16 : decode cX6_best 16 = .ok (.istore 4, 2) := by decide +kernel
theorem dX6_best_18 : decode cX6_best 18 = .ok (.iload 4, 2) := by decide +kernel
theorem dX6_best_20 : decode cX6_best 20 = .ok (.sipush 2000, 3) := by decide +kernel
theorem dX6_best_23 : decode cX6_best 23 = .ok (.if_icmp .gt 32, 3) := by decide +kernel
theorem dX6_best_26 : decode cX6_best 26 = .ok (.aload_n 0, 1) := by decide +kernel
theorem dX6_best_27 : decode cX6_best 27 = .ok (.getfield 53, 3) := by decide +kernel
theorem dX6_best_30 : decode cX6_best 30 = .ok (.iload 4, 2) := by decide +kernel
theorem dX6_best_32 : decode cX6_best 32 = .ok (.invokevirtual 250, 3) := by decide +kernel
theorem dX6_best_35 : decode cX6_best 35 = .ok (.istore 5, 2) := by decide +kernel
theorem dX6_best_37 : decode cX6_best 37 = .ok (.iload 5, 2) := by decide +kernel
theorem dX6_best_39 : decode cX6_best 39 = .ok (.iload_n 3, 1) := by decide +kernel
theorem dX6_best_40 : decode cX6_best 40 = .ok (.if_icmp .lt 9, 3) := by decide +kernel
theorem dX6_best_43 : decode cX6_best 43 = .ok (.iload 5, 2) := by decide +kernel
theorem dX6_best_45 : decode cX6_best 45 = .ok (.istore_n 3, 1) := by decide +kernel
theorem dX6_best_46 : decode cX6_best 46 = .ok (.iload 4, 2) := by decide +kernel
theorem dX6_best_48 : decode cX6_best 48 = .ok (.istore_n 2, 1) := by decide +kernel
theorem dX6_best_49 : decode cX6_best 49 = .ok (.iinc 4 100, 3) := by decide +kernel
theorem dX6_best_52 : decode cX6_best 52 = .ok (.goto (-34), 3) := by decide +kernel
theorem dX6_best_55 : decode cX6_best 55 = .ok (.iload_n 1, 1) := by decide +kernel
theorem dX6_best_56 : decode cX6_best 56 = .ok (.ifCond .ne 7, 3) := by decide +kernel
theorem dX6_best_59 : decode cX6_best 59 = .ok (.iload_n 2, 1) := by decide +kernel
theorem dX6_best_60 : decode cX6_best 60 = .ok (.goto 4, 3) := by decide +kernel
theorem dX6_best_63 : decode cX6_best 63 = .ok (.iload_n 3, 1) := by decide +kernel
theorem dX6_best_64 : decode cX6_best 64 = .ok (.ireturn, 1) := by decide +kernel
theorem dX6_gauge_0 : decode cX6_gauge 0 = .ok (.iload_n 1, 1) := by decide +kernel
theorem dX6_gauge_1 : decode cX6_gauge 1 = .ok (.iload_n 2, 1) := by decide +kernel
theorem dX6_gauge_2 : decode cX6_gauge 2 = .ok (.invokestatic 101, 3) := by decide +kernel
theorem dX6_gauge_5 : decode cX6_gauge 5 = .ok (.ifCond .eq 14, 3) := by decide +kernel
theorem dX6_gauge_8 : decode cX6_gauge 8 = .ok (.iload_n 3, 1) := by decide +kernel
theorem dX6_gauge_9 : decode cX6_gauge 9 = .ok (.iconst 0, 1) := by decide +kernel
theorem dX6_gauge_10 : decode cX6_gauge 10 = .ok (.sipush 9999, 3) := by decide +kernel
theorem dX6_gauge_13 : decode cX6_gauge 13 = .ok (.invokestatic 72, 3) := by decide +kernel
theorem dX6_gauge_16 : decode cX6_gauge 16 = .ok (.ifCond .ne 5, 3) := by decide +kernel
theorem dX6_gauge_19 : decode cX6_gauge 19 = .ok (.iconst (-1), 1) := by decide +kernel
theorem dX6_gauge_20 : decode cX6_gauge 20 = .ok (.ireturn, 1) := by decide +kernel
theorem dX6_gauge_21 : decode cX6_gauge 21 = .ok (.aload_n 0, 1) := by decide +kernel
theorem dX6_gauge_22 : decode cX6_gauge 22 = .ok (.getfield 60, 3) := by decide +kernel
theorem dX6_gauge_25 : decode cX6_gauge 25 = .ok (.iload_n 1, 1) := by decide +kernel
theorem dX6_gauge_26 : decode cX6_gauge 26 = .ok (.iload_n 2, 1) := by decide +kernel
theorem dX6_gauge_27 : decode cX6_gauge 27 = .ok (.invokestatic 105, 3) := by decide +kernel
theorem dX6_gauge_30 : decode cX6_gauge 30 = .ok (.iload_n 3, 1) := by decide +kernel
theorem dX6_gauge_31 : decode cX6_gauge 31 = .ok (.invokevirtual 253, 3) := by decide +kernel
theorem dX6_gauge_34 : decode cX6_gauge 34 = .ok (.ireturn, 1) := by decide +kernel
theorem dX6_cause_0 : decode cX6_cause 0 = .ok (.iload_n 1, 1) := by decide +kernel
theorem dX6_cause_1 : decode cX6_cause 1 = .ok (.invokestatic 126, 3) := by decide +kernel
theorem dX6_cause_4 : decode cX6_cause 4 = .ok (.ifCond .eq 10, 3) := by decide +kernel
theorem dX6_cause_7 : decode cX6_cause 7 = .ok (.iload_n 2, 1) := by decide +kernel
theorem dX6_cause_8 : decode cX6_cause 8 = .ok (.invokestatic 129, 3) := by decide +kernel
theorem dX6_cause_11 : decode cX6_cause 11 = .ok (.ifCond .ne 5, 3) := by decide +kernel
theorem dX6_cause_14 : decode cX6_cause 14 = .ok (.iconst (-1), 1) := by decide +kernel
theorem dX6_cause_15 : decode cX6_cause 15 = .ok (.ireturn, 1) := by decide +kernel
theorem dX6_cause_16 : decode cX6_cause 16 = .ok (.aload_n 0, 1) := by decide +kernel
theorem dX6_cause_17 : decode cX6_cause 17 = .ok (.getfield 60, 3) := by decide +kernel
theorem dX6_cause_20 : decode cX6_cause 20 = .ok (.iload_n 1, 1) := by decide +kernel
theorem dX6_cause_21 : decode cX6_cause 21 = .ok (.iload_n 2, 1) := by decide +kernel
theorem dX6_cause_22 : decode cX6_cause 22 = .ok (.invokevirtual 256, 3) := by decide +kernel
theorem dX6_cause_25 : decode cX6_cause 25 = .ok (.ireturn, 1) := by decide +kernel
theorem dX6_slack_0 : decode cX6_slack 0 = .ok (.iload_n 1, 1) := by decide +kernel
theorem dX6_slack_1 : decode cX6_slack 1 = .ok (.iconst 0, 1) := by decide +kernel
theorem dX6_slack_2 : decode cX6_slack 2 = .ok (.sipush 999, 3) := by decide +kernel
theorem dX6_slack_5 : decode cX6_slack 5 = .ok (.invokestatic 72, 3) := by decide +kernel
theorem dX6_slack_8 : decode cX6_slack 8 = .ok (.ifCond .ne 5, 3) := by decide +kernel
theorem dX6_slack_11 : decode cX6_slack 11 = .ok (.iconst (-1), 1) := by decide +kernel
theorem dX6_slack_12 : decode cX6_slack 12 = .ok (.ireturn, 1) := by decide +kernel
theorem dX6_slack_13 : decode cX6_slack 13 = .ok (.aload_n 0, 1) := by decide +kernel
theorem dX6_slack_14 : decode cX6_slack 14 = .ok (.getfield 60, 3) := by decide +kernel
theorem dX6_slack_17 : decode cX6_slack 17 = .ok (.getfield 259, 3) := by decide +kernel
theorem dX6_slack_20 : decode cX6_slack 20 = .ok (.istore_n 2, 1) := by decide +kernel
theorem dX6_slack_21 : decode cX6_slack 21 = .ok (.aload_n 0, 1) := by decide +kernel
theorem dX6_slack_22 : decode cX6_slack 22 = .ok (.getfield 60, 3) := by decide +kernel
theorem dX6_slack_25 : decode cX6_slack 25 = .ok (.iload_n 1, 1) := by decide +kernel
theorem dX6_slack_26 : decode cX6_slack 26 = .ok (.putfield 259, 3) := by decide +kernel
theorem dX6_slack_29 : decode cX6_slack 29 = .ok (.iload_n 2, 1) := by decide +kernel
theorem dX6_slack_30 : decode cX6_slack 30 = .ok (.ireturn, 1) := by decide +kernel
theorem dX6_fits_0 : decode cX6_fits 0 = .ok (.aload_n 0, 1) := by decide +kernel
theorem dX6_fits_1 : decode cX6_fits 1 = .ok (.getfield 60, 3) := by decide +kernel
theorem dX6_fits_4 : decode cX6_fits 4 = .ok (.aload_n 0, 1) := by decide +kernel
theorem dX6_fits_5 : decode cX6_fits 5 = .ok (.getfield 19, 3) := by decide +kernel
theorem dX6_fits_8 : decode cX6_fits 8 = .ok (.aload_n 0, 1) := by decide +kernel
theorem dX6_fits_9 : decode cX6_fits 9 = .ok (.getfield 23, 3) := by decide +kernel
theorem dX6_fits_12 : decode cX6_fits 12 = .ok (.invokevirtual 262, 3) := by decide +kernel
theorem dX6_fits_15 : decode cX6_fits 15 = .ok (.ireturn, 1) := by decide +kernel
theorem dX6_next_0 : decode cX6_next 0 = .ok (.iload_n 1, 1) := by decide +kernel
theorem dX6_next_1 : decode cX6_next 1 = .ok (.iconst 0, 1) := by decide +kernel
theorem dX6_next_2 : decode cX6_next 2 = .ok (.iconst 1, 1) := by decide +kernel
theorem dX6_next_3 : decode cX6_next 3 = .ok (.invokestatic 72, 3) := by decide +kernel
theorem dX6_next_6 : decode cX6_next 6 = .ok (.ifCond .ne 5, 3) := by decide +kernel
theorem dX6_next_9 : decode cX6_next 9 = .ok (.iconst (-1), 1) := by decide +kernel
theorem dX6_next_10 : decode cX6_next 10 = .ok (.ireturn, 1) := by decide +kernel
theorem dX6_next_11 : decode cX6_next 11 = .ok (.aload_n 0, 1) := by decide +kernel
theorem dX6_next_12 : decode cX6_next 12 = .ok (.getfield 60, 3) := by decide +kernel
theorem dX6_next_15 : decode cX6_next 15 = .ok (.aload_n 0, 1) := by decide +kernel
theorem dX6_next_16 : decode cX6_next 16 = .ok (.getfield 19, 3) := by decide +kernel
theorem dX6_next_19 : decode cX6_next 19 = .ok (.aload_n 0, 1) := by decide +kernel
theorem dX6_next_20 : decode cX6_next 20 = .ok (.getfield 23, 3) := by decide +kernel
theorem dX6_next_23 : decode cX6_next 23 = .ok (.invokevirtual 262, 3) := by decide +kernel
theorem dX6_next_26 : decode cX6_next 26 = .ok (.invokestatic 266, 3) := by decide +kernel
theorem dX6_next_29 : decode cX6_next 29 = .ok (.iconst 2, 1) := by decide +kernel
theorem dX6_next_30 : decode cX6_next 30 = .ok (.if_icmp .ge 6, 3) := by decide +kernel
theorem dX6_next_33 : decode cX6_next 33 = .ok (.bipush (-9), 2) := by decide +kernel
theorem dX6_next_35 : decode cX6_next 35 = .ok (.ireturn, 1) := by decide +kernel
theorem dX6_next_36 : decode cX6_next 36 = .ok (.aload_n 0, 1) := by decide +kernel
theorem dX6_next_37 : decode cX6_next 37 = .ok (.getfield 60, 3) := by decide +kernel
theorem dX6_next_40 : decode cX6_next 40 = .ok (.aload_n 0, 1) := by decide +kernel
theorem dX6_next_41 : decode cX6_next 41 = .ok (.getfield 19, 3) := by decide +kernel
theorem dX6_next_44 : decode cX6_next 44 = .ok (.invokevirtual 271, 3) := by decide +kernel
theorem dX6_next_47 : decode cX6_next 47 = .ok (.istore_n 2, 1) := by decide +kernel
theorem dX6_next_48 : decode cX6_next 48 = .ok (.iload_n 2, 1) := by decide +kernel
theorem dX6_next_49 : decode cX6_next 49 = .ok (.bipush (-9), 2) := by decide +kernel
theorem dX6_next_51 : decode cX6_next 51 = .ok (.if_icmp .ne 6, 3) := by decide +kernel
theorem dX6_next_54 : decode cX6_next 54 = .ok (.bipush (-9), 2) := by decide +kernel
theorem dX6_next_56 : decode cX6_next 56 = .ok (.ireturn, 1) := by decide +kernel
theorem dX6_next_57 : decode cX6_next 57 = .ok (.iload_n 1, 1) := by decide +kernel
theorem dX6_next_58 : decode cX6_next 58 = .ok (.ifCond .ne 7, 3) := by decide +kernel
theorem dX6_next_61 : decode cX6_next 61 = .ok (.iload_n 2, 1) := by decide +kernel
theorem dX6_next_62 : decode cX6_next 62 = .ok (.goto 11, 3) := by decide +kernel
theorem dX6_next_65 : decode cX6_next 65 = .ok (.aload_n 0, 1) := by decide +kernel
theorem dX6_next_66 : decode cX6_next 66 = .ok (.getfield 60, 3) := by decide +kernel
theorem dX6_next_69 : decode cX6_next 69 = .ok (.iload_n 2, 1) := by decide +kernel
theorem dX6_next_70 : decode cX6_next 70 = .ok (.invokevirtual 274, 3) := by decide +kernel
theorem dX6_next_73 : decode cX6_next 73 = .ok (.ireturn, 1) := by decide +kernel
theorem dX6_work_0 : decode cX6_work 0 = .ok (.iload_n 1, 1) := by decide +kernel
theorem dX6_work_1 : decode cX6_work 1 = .ok (.iconst 0, 1) := by decide +kernel
theorem dX6_work_2 : decode cX6_work 2 = .ok (.iconst 1, 1) := by decide +kernel
theorem dX6_work_3 : decode cX6_work 3 = .ok (.invokestatic 72, 3) := by decide +kernel
theorem dX6_work_6 : decode cX6_work 6 = .ok (.ifCond .eq 23, 3) := by decide +kernel
theorem dX6_work_9 : decode cX6_work 9 = .ok (.iload_n 2, 1) := by decide +kernel
theorem dX6_work_10 : decode cX6_work 10 = .ok (.iload_n 3, 1) := by decide +kernel
theorem dX6_work_11 : decode cX6_work 11 = .ok (.invokestatic 101, 3) := by decide +kernel
theorem dX6_work_14 : decode cX6_work 14 = .ok (.ifCond .eq 15, 3) := by decide +kernel
theorem dX6_work_17 : decode cX6_work 17 = .ok (.iload 5, 2) := by decide +kernel
theorem dX6_work_19 : decode cX6_work 19 = .ok (.iconst 0, 1) := by decide +kernel
theorem dX6_work_20 : decode cX6_work 20 = .ok (.sipush 999, 3) := by decide +kernel
theorem dX6_work_23 : decode cX6_work 23 = .ok (.invokestatic 72, 3) := by decide +kernel
theorem dX6_work_26 : decode cX6_work 26 = .ok (.ifCond .ne 5, 3) := by decide +kernel
theorem dX6_work_29 : decode cX6_work 29 = .ok (.iconst (-1), 1) := by decide +kernel
theorem dX6_work_30 : decode cX6_work 30 = .ok (.ireturn, 1) := by decide +kernel
theorem dX6_work_31 : decode cX6_work 31 = .ok (.iload_n 1, 1) := by decide +kernel
theorem dX6_work_32 : decode cX6_work 32 = .ok (.ifCond .ne 26, 3) := by decide +kernel
theorem dX6_work_35 : decode cX6_work 35 = .ok (.iload_n 3, 1) := by decide +kernel
theorem dX6_work_36 : decode cX6_work 36 = .ok (.ifCond .ne 18, 3) := by decide +kernel
theorem dX6_work_39 : decode cX6_work 39 = .ok (.iload 4, 2) := by decide +kernel
theorem dX6_work_41 : decode cX6_work 41 = .ok (.iconst 1, 1) := by decide +kernel
theorem dX6_work_42 : decode cX6_work 42 = .ok (.bipush 99, 2) := by decide +kernel
theorem dX6_work_44 : decode cX6_work 44 = .ok (.invokestatic 72, 3) := by decide +kernel
theorem dX6_work_47 : decode cX6_work 47 = .ok (.ifCond .eq 7, 3) := by decide +kernel
theorem dX6_work_50 : decode cX6_work 50 = .ok (.iconst 1, 1) := by decide +kernel
theorem dX6_work_51 : decode cX6_work 51 = .ok (.goto 17, 3) := by decide +kernel
theorem dX6_work_54 : decode cX6_work 54 = .ok (.iconst 0, 1) := by decide +kernel
theorem dX6_work_55 : decode cX6_work 55 = .ok (.goto 13, 3) := by decide +kernel
theorem dX6_work_58 : decode cX6_work 58 = .ok (.iload 4, 2) := by decide +kernel
theorem dX6_work_60 : decode cX6_work 60 = .ok (.ifCond .ne 7, 3) := by decide +kernel
theorem dX6_work_63 : decode cX6_work 63 = .ok (.iconst 1, 1) := by decide +kernel
theorem dX6_work_64 : decode cX6_work 64 = .ok (.goto 4, 3) := by decide +kernel
theorem dX6_work_67 : decode cX6_work 67 = .ok (.iconst 0, 1) := by decide +kernel
theorem dX6_work_68 : decode cX6_work 68 = .ok (.istore 6, 2) := by decide +kernel
theorem dX6_work_70 : decode cX6_work 70 = .ok (.iload 6, 2) := by decide +kernel
theorem dX6_work_72 : decode cX6_work 72 = .ok (.ifCond .ne 5, 3) := by decide +kernel
theorem dX6_work_75 : decode cX6_work 75 = .ok (.iconst (-1), 1) := by decide +kernel
theorem dX6_work_76 : decode cX6_work 76 = .ok (.ireturn, 1) := by decide +kernel
theorem dX6_work_77 : decode cX6_work 77 = .ok (.aload_n 0, 1) := by decide +kernel
theorem dX6_work_78 : decode cX6_work 78 = .ok (.getfield 39, 3) := by decide +kernel
theorem dX6_work_81 : decode cX6_work 81 = .ok (.iload_n 1, 1) := by decide +kernel
theorem dX6_work_82 : decode cX6_work 82 = .ok (.iload_n 2, 1) := by decide +kernel
theorem dX6_work_83 : decode cX6_work 83 = .ok (.iload_n 3, 1) := by decide +kernel
theorem dX6_work_84 : decode cX6_work 84 = .ok (.invokestatic 105, 3) := by decide +kernel
theorem dX6_work_87 : decode cX6_work 87 = .ok (.iload 4, 2) := by decide +kernel
theorem dX6_work_89 : decode cX6_work 89 = .ok (.iload 5, 2) := by decide +kernel
theorem dX6_work_91 : decode cX6_work 91 = .ok (.invokevirtual 277, 3) := by decide +kernel
theorem dX6_work_94 : decode cX6_work 94 = .ok (.ireturn, 1) := by decide +kernel
theorem dX6_cheapest_0 : decode cX6_cheapest 0 = .ok (.iload_n 1, 1) := by decide +kernel
theorem dX6_cheapest_1 : decode cX6_cheapest 1 = .ok (.iconst 0, 1) := by decide +kernel
theorem dX6_cheapest_2 : decode cX6_cheapest 2 = .ok (.sipush 9999, 3) := by decide +kernel
theorem dX6_cheapest_5 : decode cX6_cheapest 5 = .ok (.invokestatic 72, 3) := by decide +kernel
theorem dX6_cheapest_8 : decode cX6_cheapest 8 = .ok (.ifCond .eq 12, 3) := by decide +kernel
theorem dX6_cheapest_11 : decode cX6_cheapest 11 = .ok (.iload_n 2, 1) := by decide +kernel
theorem dX6_cheapest_12 : decode cX6_cheapest 12 = .ok (.iconst 0, 1) := by decide +kernel
theorem dX6_cheapest_13 : decode cX6_cheapest 13 = .ok (.iconst 1, 1) := by decide +kernel
theorem dX6_cheapest_14 : decode cX6_cheapest 14 = .ok (.invokestatic 72, 3) := by decide +kernel
theorem dX6_cheapest_17 : decode cX6_cheapest 17 = .ok (.ifCond .ne 5, 3) := by decide +kernel
theorem dX6_cheapest_20 : decode cX6_cheapest 20 = .ok (.iconst (-1), 1) := by decide +kernel
theorem dX6_cheapest_21 : decode cX6_cheapest 21 = .ok (.ireturn, 1) := by decide +kernel
theorem dX6_cheapest_22 : decode cX6_cheapest 22 = .ok (.bipush (-9), 2) := by decide +kernel
theorem dX6_cheapest_24 : decode cX6_cheapest 24 = .ok (.istore_n 3, 1) := by decide +kernel
theorem dX6_cheapest_25 : decode cX6_cheapest 25 = .ok (.bipush (-9), 2) := by decide +kernel
theorem dX6_cheapest_27 : decode cX6_cheapest 27 = .ok (.istore 4, 2) := by decide +kernel
theorem dX6_cheapest_29 : decode cX6_cheapest 29 = .ok (.iconst 1, 1) := by decide +kernel
theorem dX6_cheapest_30 : decode cX6_cheapest 30 = .ok (.aload_n 0, 1) := by decide +kernel
theorem dX6_cheapest_31 : decode cX6_cheapest 31 = .ok (.getfield 39, 3) := by decide +kernel
theorem dX6_cheapest_34 : decode cX6_cheapest 34 = .ok (.getfield 281, 3) := by decide +kernel
theorem dX6_cheapest_37 : decode cX6_cheapest 37 = .ok (.ishl, 1) := by decide +kernel
theorem dX6_cheapest_38 : decode cX6_cheapest 38 = .ok (.istore 5, 2) := by decide +kernel
theorem dX6_cheapest_40 : decode cX6_cheapest 40 = .ok (.iconst 0, 1) := by decide +kernel
theorem dX6_cheapest_41 : decode cX6_cheapest 41 = .ok (.istore 6, 2) := by decide +kernel
theorem dX6_cheapest_43 : decode cX6_cheapest 43 = .ok (.iload 6, 2) := by decide +kernel
theorem dX6_cheapest_45 : decode cX6_cheapest 45 = .ok (.iload 5, 2) := by decide +kernel
theorem dX6_cheapest_47 : decode cX6_cheapest 47 = .ok (.if_icmp .ge 74, 3) := by decide +kernel
theorem dX6_cheapest_50 : decode cX6_cheapest 50 = .ok (.aload_n 0, 1) := by decide +kernel
theorem dX6_cheapest_51 : decode cX6_cheapest 51 = .ok (.getfield 39, 3) := by decide +kernel
theorem dX6_cheapest_54 : decode cX6_cheapest 54 = .ok (.iload 6, 2) := by decide +kernel
theorem dX6_cheapest_56 : decode cX6_cheapest 56 = .ok (.invokevirtual 284, 3) := by decide +kernel
theorem dX6_cheapest_59 : decode cX6_cheapest 59 = .ok (.istore 7, 2) := by decide +kernel
theorem dX6_cheapest_61 : decode cX6_cheapest 61 = .ok (.iload_n 3, 1) := by decide +kernel
theorem dX6_cheapest_62 : decode cX6_cheapest 62 = .ok (.bipush (-9), 2) := by decide +kernel
theorem dX6_cheapest_64 : decode cX6_cheapest 64 = .ok (.if_icmp .eq 13, 3) := by decide +kernel
theorem dX6_cheapest_67 : decode cX6_cheapest 67 = .ok (.iload 7, 2) := by decide +kernel
theorem dX6_cheapest_69 : decode cX6_cheapest 69 = .ok (.iload 4, 2) := by decide +kernel
theorem dX6_cheapest_71 : decode cX6_cheapest 71 = .ok (.if_icmp .lt 6, 3) := by decide +kernel
theorem dX6_cheapest_74 : decode cX6_cheapest 74 = .ok (.goto 41, 3) := by decide +kernel
theorem dX6_cheapest_77 : decode cX6_cheapest 77 = .ok (.aload_n 0, 1) := by decide +kernel
theorem dX6_cheapest_78 : decode cX6_cheapest 78 = .ok (.getfield 46, 3) := by decide +kernel
theorem dX6_cheapest_81 : decode cX6_cheapest 81 = .ok (.aload_n 0, 1) := by decide +kernel
theorem dX6_cheapest_82 : decode cX6_cheapest 82 = .ok (.getfield 19, 3) := by decide +kernel
theorem dX6_cheapest_85 : decode cX6_cheapest 85 = .ok (.aload_n 0, 1) := by decide +kernel
theorem dX6_cheapest_86 : decode cX6_cheapest 86 = .ok (.getfield 39, 3) := by decide +kernel
theorem dX6_cheapest_89 : decode cX6_cheapest 89 = .ok (.iload 6, 2) := by decide +kernel
theorem dX6_cheapest_91 : decode cX6_cheapest 91 = .ok (.invokevirtual 180, 3) := by decide +kernel
theorem dX6_cheapest_94 : decode cX6_cheapest 94 = .ok (.aload_n 0, 1) := by decide +kernel
theorem dX6_cheapest_95 : decode cX6_cheapest 95 = .ok (.getfield 46, 3) := by decide +kernel
theorem dX6_cheapest_98 : decode cX6_cheapest 98 = .ok (.iload_n 1, 1) := by decide +kernel
theorem dX6_cheapest_99 : decode cX6_cheapest 99 = .ok (.invokevirtual 287, 3) := by decide +kernel
theorem dX6_cheapest_102 : decode cX6_cheapest 102 = .ok (.ifCond .ne 6, 3) := by decide +kernel
theorem dX6_cheapest_105 : decode cX6_cheapest 105 = .ok (.goto 10, 3) := by decide +kernel
theorem dX6_cheapest_108 : decode cX6_cheapest 108 = .ok (.iload 6, 2) := by decide +kernel
theorem dX6_cheapest_110 : decode cX6_cheapest 110 = .ok (.istore_n 3, 1) := by decide +kernel
theorem dX6_cheapest_111 : decode cX6_cheapest 111 = .ok (.iload 7, 2) := by decide +kernel
theorem dX6_cheapest_113 : decode cX6_cheapest 113 = .ok (.istore 4, 2) := by decide +kernel
theorem dX6_cheapest_115 : decode cX6_cheapest 115 = .ok (.iinc 6 1, 3) := by decide +kernel
theorem dX6_cheapest_118 : decode cX6_cheapest 118 = .ok (.goto (-75), 3) := by decide +kernel
theorem dX6_cheapest_121 : decode cX6_cheapest 121 = .ok (.iload_n 2, 1) := by decide +kernel
theorem dX6_cheapest_122 : decode cX6_cheapest 122 = .ok (.ifCond .ne 8, 3) := by decide +kernel
theorem dX6_cheapest_125 : decode cX6_cheapest 125 = .ok (.iload 4, 2) := by decide +kernel
theorem dX6_cheapest_127 : decode cX6_cheapest 127 = .ok (.goto 4, 3) := by decide +kernel
theorem dX6_cheapest_130 : decode cX6_cheapest 130 = .ok (.iload_n 3, 1) := by decide +kernel
theorem dX6_cheapest_131 : decode cX6_cheapest 131 = .ok (.ireturn, 1) := by decide +kernel
theorem dX6_keep_0 : decode cX6_keep 0 = .ok (.iload_n 1, 1) := by decide +kernel
theorem dX6_keep_1 : decode cX6_keep 1 = .ok (.iconst 0, 1) := by decide +kernel
theorem dX6_keep_2 : decode cX6_keep 2 = .ok (.iconst 1, 1) := by decide +kernel
theorem dX6_keep_3 : decode cX6_keep 3 = .ok (.invokestatic 72, 3) := by decide +kernel
theorem dX6_keep_6 : decode cX6_keep 6 = .ok (.ifCond .ne 5, 3) := by decide +kernel
theorem dX6_keep_9 : decode cX6_keep 9 = .ok (.iconst (-1), 1) := by decide +kernel
theorem dX6_keep_10 : decode cX6_keep 10 = .ok (.ireturn, 1) := by decide +kernel
theorem dX6_keep_11 : decode cX6_keep 11 = .ok (.aload_n 0, 1) := by decide +kernel
theorem dX6_keep_12 : decode cX6_keep 12 = .ok (.iload_n 1, 1) := by decide +kernel
theorem dX6_keep_13 : decode cX6_keep 13 = .ok (.invokevirtual 290, 3) := by decide +kernel
theorem dX6_keep_16 : decode cX6_keep 16 = .ok (.aload_n 0, 1) := by decide +kernel
theorem dX6_keep_17 : decode cX6_keep 17 = .ok (.getfield 19, 3) := by decide +kernel
theorem dX6_keep_20 : decode cX6_keep 20 = .ok (.invokevirtual 94, 3) := by decide +kernel
theorem dX6_keep_23 : decode cX6_keep 23 = .ok (.aload_n 0, 1) := by decide +kernel
theorem dX6_keep_24 : decode cX6_keep 24 = .ok (.getfield 32, 3) := by decide +kernel
theorem dX6_keep_27 : decode cX6_keep 27 = .ok (.iload_n 1, 1) := by decide +kernel
theorem dX6_keep_28 : decode cX6_keep 28 = .ok (.iconst 1, 1) := by decide +kernel
theorem dX6_keep_29 : decode cX6_keep 29 = .ok (.iastore, 1) := by decide +kernel
theorem dX6_keep_30 : decode cX6_keep 30 = .ok (.aload_n 0, 1) := by decide +kernel
theorem dX6_keep_31 : decode cX6_keep 31 = .ok (.getfield 19, 3) := by decide +kernel
theorem dX6_keep_34 : decode cX6_keep 34 = .ok (.invokevirtual 98, 3) := by decide +kernel
theorem dX6_keep_37 : decode cX6_keep 37 = .ok (.ireturn, 1) := by decide +kernel
theorem dX6_back_0 : decode cX6_back 0 = .ok (.iload_n 1, 1) := by decide +kernel
theorem dX6_back_1 : decode cX6_back 1 = .ok (.iconst 0, 1) := by decide +kernel
theorem dX6_back_2 : decode cX6_back 2 = .ok (.iconst 1, 1) := by decide +kernel
theorem dX6_back_3 : decode cX6_back 3 = .ok (.invokestatic 72, 3) := by decide +kernel
theorem dX6_back_6 : decode cX6_back 6 = .ok (.ifCond .ne 5, 3) := by decide +kernel
theorem dX6_back_9 : decode cX6_back 9 = .ok (.iconst (-1), 1) := by decide +kernel
theorem dX6_back_10 : decode cX6_back 10 = .ok (.ireturn, 1) := by decide +kernel
theorem dX6_back_11 : decode cX6_back 11 = .ok (.aload_n 0, 1) := by decide +kernel
theorem dX6_back_12 : decode cX6_back 12 = .ok (.getfield 32, 3) := by decide +kernel
theorem dX6_back_15 : decode cX6_back 15 = .ok (.iload_n 1, 1) := by decide +kernel
theorem dX6_back_16 : decode cX6_back 16 = .ok (.iaload, 1) := by decide +kernel
theorem dX6_back_17 : decode cX6_back 17 = .ok (.ifCond .ne 6, 3) := by decide +kernel
theorem dX6_back_20 : decode cX6_back 20 = .ok (.bipush (-2), 2) := by decide +kernel
theorem dX6_back_22 : decode cX6_back 22 = .ok (.ireturn, 1) := by decide +kernel
theorem dX6_back_23 : decode cX6_back 23 = .ok (.aload_n 0, 1) := by decide +kernel
theorem dX6_back_24 : decode cX6_back 24 = .ok (.getfield 19, 3) := by decide +kernel
theorem dX6_back_27 : decode cX6_back 27 = .ok (.aload_n 0, 1) := by decide +kernel
theorem dX6_back_28 : decode cX6_back 28 = .ok (.iload_n 1, 1) := by decide +kernel
theorem dX6_back_29 : decode cX6_back 29 = .ok (.invokevirtual 290, 3) := by decide +kernel
theorem dX6_back_32 : decode cX6_back 32 = .ok (.invokevirtual 94, 3) := by decide +kernel
theorem dX6_back_35 : decode cX6_back 35 = .ok (.aload_n 0, 1) := by decide +kernel
theorem dX6_back_36 : decode cX6_back 36 = .ok (.getfield 19, 3) := by decide +kernel
theorem dX6_back_39 : decode cX6_back 39 = .ok (.invokevirtual 98, 3) := by decide +kernel
theorem dX6_back_42 : decode cX6_back 42 = .ok (.ireturn, 1) := by decide +kernel
theorem dX6_count_0 : decode cX6_count 0 = .ok (.iload_n 1, 1) := by decide +kernel
theorem dX6_count_1 : decode cX6_count 1 = .ok (.tableswitch 111 0 7 #[47, 55, 63, 71, 79, 87, 95, 103], 47) := by decide +kernel
theorem dX6_count_48 : decode cX6_count 48 = .ok (.aload_n 0, 1) := by decide +kernel
theorem dX6_count_49 : decode cX6_count 49 = .ok (.getfield 19, 3) := by decide +kernel
theorem dX6_count_52 : decode cX6_count 52 = .ok (.invokevirtual 98, 3) := by decide +kernel
theorem dX6_count_55 : decode cX6_count 55 = .ok (.ireturn, 1) := by decide +kernel
theorem dX6_count_56 : decode cX6_count 56 = .ok (.aload_n 0, 1) := by decide +kernel
theorem dX6_count_57 : decode cX6_count 57 = .ok (.getfield 19, 3) := by decide +kernel
theorem dX6_count_60 : decode cX6_count 60 = .ok (.invokevirtual 294, 3) := by decide +kernel
theorem dX6_count_63 : decode cX6_count 63 = .ok (.ireturn, 1) := by decide +kernel
theorem dX6_count_64 : decode cX6_count 64 = .ok (.aload_n 0, 1) := by decide +kernel
theorem dX6_count_65 : decode cX6_count 65 = .ok (.getfield 19, 3) := by decide +kernel
theorem dX6_count_68 : decode cX6_count 68 = .ok (.invokevirtual 171, 3) := by decide +kernel
theorem dX6_count_71 : decode cX6_count 71 = .ok (.ireturn, 1) := by decide +kernel
theorem dX6_count_72 : decode cX6_count 72 = .ok (.aload_n 0, 1) := by decide +kernel
theorem dX6_count_73 : decode cX6_count 73 = .ok (.getfield 60, 3) := by decide +kernel
theorem dX6_count_76 : decode cX6_count 76 = .ok (.getfield 297, 3) := by decide +kernel
theorem dX6_count_79 : decode cX6_count 79 = .ok (.ireturn, 1) := by decide +kernel
theorem dX6_count_80 : decode cX6_count 80 = .ok (.aload_n 0, 1) := by decide +kernel
theorem dX6_count_81 : decode cX6_count 81 = .ok (.getfield 60, 3) := by decide +kernel
theorem dX6_count_84 : decode cX6_count 84 = .ok (.getfield 300, 3) := by decide +kernel
theorem dX6_count_87 : decode cX6_count 87 = .ok (.ireturn, 1) := by decide +kernel
theorem dX6_count_88 : decode cX6_count 88 = .ok (.aload_n 0, 1) := by decide +kernel
theorem dX6_count_89 : decode cX6_count 89 = .ok (.getfield 39, 3) := by decide +kernel
theorem dX6_count_92 : decode cX6_count 92 = .ok (.getfield 281, 3) := by decide +kernel
theorem dX6_count_95 : decode cX6_count 95 = .ok (.ireturn, 1) := by decide +kernel
theorem dX6_count_96 : decode cX6_count 96 = .ok (.aload_n 0, 1) := by decide +kernel
theorem dX6_count_97 : decode cX6_count 97 = .ok (.getfield 19, 3) := by decide +kernel
theorem dX6_count_100 : decode cX6_count 100 = .ok (.getfield 91, 3) := by decide +kernel
theorem dX6_count_103 : decode cX6_count 103 = .ok (.ireturn, 1) := by decide +kernel
theorem dX6_count_104 : decode cX6_count 104 = .ok (.aload_n 0, 1) := by decide +kernel
theorem dX6_count_105 : decode cX6_count 105 = .ok (.getfield 12, 3) := by decide +kernel
theorem dX6_count_108 : decode cX6_count 108 = .ok (.getfield 80, 3) := by decide +kernel
theorem dX6_count_111 : decode cX6_count 111 = .ok (.ireturn, 1) := by decide +kernel
theorem dX6_count_112 : decode cX6_count 112 = .ok (.iconst (-1), 1) := by decide +kernel
theorem dX6_count_113 : decode cX6_count 113 = .ok (.ireturn, 1) := by decide +kernel
theorem dX6_trace_0 : decode cX6_trace 0 = .ok (.aload_n 0, 1) := by decide +kernel
theorem dX6_trace_1 : decode cX6_trace 1 = .ok (.getfield 68, 3) := by decide +kernel
theorem dX6_trace_4 : decode cX6_trace 4 = .ok (.lreturn, 1) := by decide +kernel
theorem dX6_imageOf_0 : decode cX6_imageOf 0 = .ok (.iload_n 1, 1) := by decide +kernel
theorem dX6_imageOf_1 : decode cX6_imageOf 1 = .ok (.ifCond .ne 10, 3) := by decide +kernel
theorem dX6_imageOf_4 : decode cX6_imageOf 4 = .ok (.aload_n 0, 1) := by decide +kernel
theorem dX6_imageOf_5 : decode cX6_imageOf 5 = .ok (.getfield 26, 3) := by decide +kernel
theorem dX6_imageOf_8 : decode cX6_imageOf 8 = .ok (.goto 7, 3) := by decide +kernel
theorem dX6_imageOf_11 : decode cX6_imageOf 11 = .ok (.aload_n 0, 1) := by decide +kernel
theorem dX6_imageOf_12 : decode cX6_imageOf 12 = .ok (.getfield 29, 3) := by decide +kernel
theorem dX6_imageOf_15 : decode cX6_imageOf 15 = .ok (.areturn, 1) := by decide +kernel
theorem dX6_within_0 : decode cX6_within 0 = .ok (.iload_n 0, 1) := by decide +kernel
theorem dX6_within_1 : decode cX6_within 1 = .ok (.iload_n 1, 1) := by decide +kernel
theorem dX6_within_2 : decode cX6_within 2 = .ok (.if_icmp .lt 12, 3) := by decide +kernel
theorem dX6_within_5 : decode cX6_within 5 = .ok (.iload_n 0, 1) := by decide +kernel
theorem dX6_within_6 : decode cX6_within 6 = .ok (.iload_n 2, 1) := by decide +kernel
theorem dX6_within_7 : decode cX6_within 7 = .ok (.if_icmp .gt 7, 3) := by decide +kernel
theorem dX6_within_10 : decode cX6_within 10 = .ok (.iconst 1, 1) := by decide +kernel
theorem dX6_within_11 : decode cX6_within 11 = .ok (.goto 4, 3) := by decide +kernel
theorem dX6_within_14 : decode cX6_within 14 = .ok (.iconst 0, 1) := by decide +kernel
theorem dX6_within_15 : decode cX6_within 15 = .ok (.ireturn, 1) := by decide +kernel
theorem dX6_isCell_0 : decode cX6_isCell 0 = .ok (.iload_n 0, 1) := by decide +kernel
theorem dX6_isCell_1 : decode cX6_isCell 1 = .ok (.iconst 0, 1) := by decide +kernel
theorem dX6_isCell_2 : decode cX6_isCell 2 = .ok (.bipush 7, 2) := by decide +kernel
theorem dX6_isCell_4 : decode cX6_isCell 4 = .ok (.invokestatic 72, 3) := by decide +kernel
theorem dX6_isCell_7 : decode cX6_isCell 7 = .ok (.ifCond .eq 16, 3) := by decide +kernel
theorem dX6_isCell_10 : decode cX6_isCell 10 = .ok (.iload_n 1, 1) := by decide +kernel
theorem dX6_isCell_11 : decode cX6_isCell 11 = .ok (.iconst 0, 1) := by decide +kernel
theorem dX6_isCell_12 : decode cX6_isCell 12 = .ok (.iconst 5, 1) := by decide +kernel
theorem dX6_isCell_13 : decode cX6_isCell 13 = .ok (.invokestatic 72, 3) := by decide +kernel
theorem dX6_isCell_16 : decode cX6_isCell 16 = .ok (.ifCond .eq 7, 3) := by decide +kernel
theorem dX6_isCell_19 : decode cX6_isCell 19 = .ok (.iconst 1, 1) := by decide +kernel
theorem dX6_isCell_20 : decode cX6_isCell 20 = .ok (.goto 4, 3) := by decide +kernel
theorem dX6_isCell_23 : decode cX6_isCell 23 = .ok (.iconst 0, 1) := by decide +kernel
theorem dX6_isCell_24 : decode cX6_isCell 24 = .ok (.ireturn, 1) := by decide +kernel
theorem dX6_isZone_0 : decode cX6_isZone 0 = .ok (.iload_n 0, 1) := by decide +kernel
theorem dX6_isZone_1 : decode cX6_isZone 1 = .ok (.iconst 0, 1) := by decide +kernel
theorem dX6_isZone_2 : decode cX6_isZone 2 = .ok (.iconst 5, 1) := by decide +kernel
theorem dX6_isZone_3 : decode cX6_isZone 3 = .ok (.invokestatic 72, 3) := by decide +kernel
theorem dX6_isZone_6 : decode cX6_isZone 6 = .ok (.ireturn, 1) := by decide +kernel
theorem dX6_isTrait_0 : decode cX6_isTrait 0 = .ok (.iload_n 0, 1) := by decide +kernel
theorem dX6_isTrait_1 : decode cX6_isTrait 1 = .ok (.iconst 1, 1) := by decide +kernel
theorem dX6_isTrait_2 : decode cX6_isTrait 2 = .ok (.bipush 99, 2) := by decide +kernel
theorem dX6_isTrait_4 : decode cX6_isTrait 4 = .ok (.invokestatic 72, 3) := by decide +kernel
theorem dX6_isTrait_7 : decode cX6_isTrait 7 = .ok (.ireturn, 1) := by decide +kernel
theorem dX6_isFlood_0 : decode cX6_isFlood 0 = .ok (.iload_n 0, 1) := by decide +kernel
theorem dX6_isFlood_1 : decode cX6_isFlood 1 = .ok (.iconst 0, 1) := by decide +kernel
theorem dX6_isFlood_2 : decode cX6_isFlood 2 = .ok (.bipush 7, 2) := by decide +kernel
theorem dX6_isFlood_4 : decode cX6_isFlood 4 = .ok (.invokestatic 72, 3) := by decide +kernel
theorem dX6_isFlood_7 : decode cX6_isFlood 7 = .ok (.ireturn, 1) := by decide +kernel
theorem dX6_isPoolWater_0 : decode cX6_isPoolWater 0 = .ok (.iload_n 0, 1) := by decide +kernel
theorem dX6_isPoolWater_1 : decode cX6_isPoolWater 1 = .ok (.iconst 0, 1) := by decide +kernel
theorem dX6_isPoolWater_2 : decode cX6_isPoolWater 2 = .ok (.sipush 9999, 3) := by decide +kernel
theorem dX6_isPoolWater_5 : decode cX6_isPoolWater 5 = .ok (.invokestatic 72, 3) := by decide +kernel
theorem dX6_isPoolWater_8 : decode cX6_isPoolWater 8 = .ok (.ireturn, 1) := by decide +kernel
theorem dX6_placeOf_0 : decode cX6_placeOf 0 = .ok (.bipush 8, 2) := by decide +kernel
theorem dX6_placeOf_2 : decode cX6_placeOf 2 = .ok (.iload_n 1, 1) := by decide +kernel
theorem dX6_placeOf_3 : decode cX6_placeOf 3 = .ok (.imul, 1) := by decide +kernel
theorem dX6_placeOf_4 : decode cX6_placeOf 4 = .ok (.iload_n 0, 1) := by decide +kernel
theorem dX6_placeOf_5 : decode cX6_placeOf 5 = .ok (.iadd, 1) := by decide +kernel
theorem dX6_placeOf_6 : decode cX6_placeOf 6 = .ok (.ireturn, 1) := by decide +kernel
