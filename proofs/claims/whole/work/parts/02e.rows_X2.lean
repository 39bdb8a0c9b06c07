theorem dX2_init_0 : decode cX2_init 0 = .ok (.aload_n 0, 1) := by decide +kernel
theorem dX2_init_1 : decode cX2_init 1 = .ok (.invokespecial 3, 3) := by decide +kernel
theorem dX2_init_4 : decode cX2_init 4 = .ok (.aload_n 0, 1) := by decide +kernel
theorem dX2_init_5 : decode cX2_init 5 = .ok (.bipush 48, 2) := by decide +kernel
theorem dX2_init_7 : decode cX2_init 7 = .ok (.newarray .int, 2) := by decide +kernel
theorem dX2_init_9 : decode cX2_init 9 = .ok (.putfield 9, 3) := by decide +kernel
theorem dX2_init_12 : decode cX2_init 12 = .ok (.aload_n 0, 1) := by decide +kernel
theorem dX2_init_13 : decode cX2_init 13 = .ok (.bipush 48, 2) := by decide +kernel
theorem dX2_init_15 : decode cX2_init 15 = .ok (.newarray .int, 2) := by decide +kernel
theorem dX2_init_17 : decode cX2_init 17 = .ok (.putfield 15, 3) := by decide +kernel
theorem dX2_init_20 : decode cX2_init 20 = .ok (.aload_n 0, 1) := by decide +kernel
theorem dX2_init_21 : decode cX2_init 21 = .ok (.bipush 48, 2) := by decide +kernel
theorem dX2_init_23 : decode cX2_init 23 = .ok (.newarray .int, 2) := by decide +kernel
theorem dX2_init_25 : decode cX2_init 25 = .ok (.putfield 18, 3) := by decide +kernel
theorem dX2_init_28 : decode cX2_init 28 = .ok (.aload_n 0, 1) := by decide +kernel
theorem dX2_init_29 : decode cX2_init 29 = .ok (.bipush 6, 2) := by decide +kernel
theorem dX2_init_31 : decode cX2_init 31 = .ok (.newarray .int, 2) := by decide +kernel
theorem dX2_init_33 : decode cX2_init 33 = .ok (.putfield 21, 3) := by decide +kernel
theorem dX2_init_36 : decode cX2_init 36 = .ok (.aload_n 0, 1) := by decide +kernel
theorem dX2_init_37 : decode cX2_init 37 = .ok (.bipush 6, 2) := by decide +kernel
theorem dX2_init_39 : decode cX2_init 39 = .ok (.newarray .int, 2) := by decide +kernel
theorem dX2_init_41 : decode cX2_init 41 = .ok (.putfield 24, 3) := by decide +kernel
theorem dX2_init_44 : decode cX2_init 44 = .ok (.aload_n 0, 1) := by decide +kernel
theorem dX2_init_45 : decode cX2_init 45 = .ok (.bipush 6, 2) := by decide +kernel
theorem dX2_init_47 : decode cX2_init 47 = .ok (.newarray .int, 2) := by decide +kernel
theorem dX2_init_49 : decode cX2_init 49 = .ok (.putfield 27, 3) := by decide +kernel
theorem dX2_init_52 : decode cX2_init 52 = .ok (.aload_n 0, 1) := by decide +kernel
theorem dX2_init_53 : decode cX2_init 53 = .ok (.iconst 0, 1) := by decide +kernel
theorem dX2_init_54 : decode cX2_init 54 = .ok (.putfield 30, 3) := by decide +kernel
theorem dX2_init_57 : decode cX2_init 57 = .ok (.aload_n 0, 1) := by decide +kernel
theorem dX2_init_58 : decode cX2_init 58 = .ok (.bipush 48, 2) := by decide +kernel
theorem dX2_init_60 : decode cX2_init 60 = .ok (.newarray .int, 2) := by decide +kernel
theorem dX2_init_62 : decode cX2_init 62 = .ok (.putfield 34, 3) := by decide +kernel
theorem dX2_init_65 : decode cX2_init 65 = .ok (.aload_n 0, 1) := by decide +kernel
theorem dX2_init_66 : decode cX2_init 66 = .ok (.bipush 48, 2) := by decide +kernel
theorem dX2_init_68 : decode cX2_init 68 = .ok (.newarray .int, 2) := by decide +kernel
theorem dX2_init_70 : decode cX2_init 70 = .ok (.putfield 37, 3) := by decide +kernel
theorem dX2_init_73 : decode cX2_init 73 = .ok (.aload_n 0, 1) := by decide +kernel
theorem dX2_init_74 : decode cX2_init 74 = .ok (.invokevirtual 40, 3) := by decide +kernel
theorem dX2_init_77 : decode cX2_init 77 = .ok (.return_, 1) := by decide +kernel
theorem dX2_makeBlank_0 : decode cX2_makeBlank 0 = .ok (.aload_n 0, 1) := by decide +kernel
theorem dX2_makeBlank_1 : decode cX2_makeBlank 1 = .ok (.getfield 9, 3) := by decide +kernel
theorem dX2_makeBlank_4 : decode cX2_makeBlank 4 = .ok (.iconst (-1), 1) := by decide +kernel
theorem dX2_makeBlank_5 : decode cX2_makeBlank 5 = .ok (.invokestatic 43, 3) := by decide +kernel
theorem dX2_makeBlank_8 : decode cX2_makeBlank 8 = .ok (.aload_n 0, 1) := by decide +kernel
theorem dX2_makeBlank_9 : decode cX2_makeBlank 9 = .ok (.getfield 15, 3) := by decide +kernel
theorem dX2_makeBlank_12 : decode cX2_makeBlank 12 = .ok (.iconst 0, 1) := by decide +kernel
theorem dX2_makeBlank_13 : decode cX2_makeBlank 13 = .ok (.invokestatic 43, 3) := by decide +kernel
theorem dX2_makeBlank_16 : decode cX2_makeBlank 16 = .ok (.aload_n 0, 1) := by decide +kernel
theorem dX2_makeBlank_17 : decode cX2_makeBlank 17 = .ok (.getfield 18, 3) := by decide +kernel
theorem dX2_makeBlank_20 : decode cX2_makeBlank 20 = .ok (.iconst 0, 1) := by decide +kernel
theorem dX2_makeBlank_21 : decode cX2_makeBlank 21 = .ok (.invokestatic 43, 3) := by decide +kernel
theorem dX2_makeBlank_24 : decode cX2_makeBlank 24 = .ok (.aload_n 0, 1) := by decide +kernel
theorem dX2_makeBlank_25 : decode cX2_makeBlank 25 = .ok (.getfield 21, 3) := by decide +kernel
theorem dX2_makeBlank_28 : decode cX2_makeBlank 28 = .ok (.bipush 10, 2) := by decide +kernel
theorem dX2_makeBlank_30 : decode cX2_makeBlank 30 = .ok (.invokestatic 43, 3) := by decide +kernel
theorem dX2_makeBlank_33 : decode cX2_makeBlank 33 = .ok (.aload_n 0, 1) := by decide +kernel
theorem dX2_makeBlank_34 : decode cX2_makeBlank 34 = .ok (.getfield 24, 3) := by decide +kernel
theorem dX2_makeBlank_37 : decode cX2_makeBlank 37 = .ok (.bipush 10, 2) := by decide +kernel
theorem dX2_makeBlank_39 : decode cX2_makeBlank 39 = .ok (.invokestatic 43, 3) := by decide +kernel
theorem dX2_makeBlank_42 : decode cX2_makeBlank 42 = .ok (.aload_n 0, 1) := by decide +kernel
theorem dX2_makeBlank_43 : decode cX2_makeBlank 43 = .ok (.getfield 27, 3) := by decide +kernel
theorem dX2_makeBlank_46 : decode cX2_makeBlank 46 = .ok (.bipush 10, 2) := by decide +kernel
theorem dX2_makeBlank_48 : decode cX2_makeBlank 48 = .ok (.invokestatic 43, 3) := by decide +kernel
theorem dX2_makeBlank_51 : decode cX2_makeBlank 51 = .ok (.return_, 1) := by decide +kernel
theorem dX2_copy_0 : decode cX2_copy 0 = .ok (.aload_n 1, 1) := by decide +kernel
theorem dX2_copy_1 : decode cX2_copy 1 = .ok (.getfield 9, 3) := by decide +kernel
theorem dX2_copy_4 : decode cX2_copy 4 = .ok (.iconst 0, 1) := by decide +kernel
theorem dX2_copy_5 : decode cX2_copy 5 = .ok (.aload_n 0, 1) := by decide +kernel
theorem dX2_copy_6 : decode cX2_copy 6 = .ok (.getfield 9, 3) := by decide +kernel
theorem dX2_copy_9 : decode cX2_copy 9 = .ok (.iconst 0, 1) := by decide +kernel
theorem dX2_copy_10 : decode cX2_copy 10 = .ok (.bipush 48, 2) := by decide +kernel
theorem dX2_copy_12 : decode cX2_copy 12 = .ok (.invokestatic 49, 3) := by decide +kernel
theorem dX2_copy_15 : decode cX2_copy 15 = .ok (.aload_n 1, 1) := by decide +kernel
theorem dX2_copy_16 : decode cX2_copy 16 = .ok (.getfield 15, 3) := by decide +kernel
theorem dX2_copy_19 : decode cX2_copy 19 = .ok (.iconst 0, 1) := by decide +kernel
theorem dX2_copy_20 : decode cX2_copy 20 = .ok (.aload_n 0, 1) := by decide +kernel
theorem dX2_copy_21 : decode cX2_copy 21 = .ok (.getfield 15, 3) := by decide +kernel
theorem dX2_copy_24 : decode cX2_copy 24 = .ok (.iconst 0, 1) := by decide +kernel
theorem dX2_copy_25 : decode cX2_copy 25 = .ok (.bipush 48, 2) := by decide +kernel
theorem dX2_copy_27 : decode cX2_copy 27 = .ok (.invokestatic 49, 3) := by decide +kernel
theorem dX2_copy_30 : decode cX2_copy 30 = .ok (.aload_n 1, 1) := by decide +kernel
theorem dX2_copy_31 : decode cX2_copy 31 = .ok (.getfield 18, 3) := by decide +kernel
theorem dX2_copy_34 : decode cX2_copy 34 = .ok (.iconst 0, 1) := by decide +kernel
theorem dX2_copy_35 : decode cX2_copy 35 = .ok (.aload_n 0, 1) := by decide +kernel
theorem dX2_copy_36 : decode cX2_copy 36 = .ok (.getfield 18, 3) := by decide +kernel
theorem dX2_copy_39 : decode cX2_copy 39 = .ok (.iconst 0, 1) := by decide +kernel
theorem dX2_copy_40 : decode cX2_copy 40 = .ok (.bipush 48, 2) := by decide +kernel
theorem dX2_copy_42 : decode cX2_copy 42 = .ok (.invokestatic 49, 3) := by decide +kernel
theorem dX2_copy_45 : decode cX2_copy 45 = .ok (.aload_n 1, 1) := by decide +kernel
theorem dX2_copy_46 : decode cX2_copy 46 = .ok (.getfield 21, 3) := by decide +kernel
theorem dX2_copy_49 : decode cX2_copy 49 = .ok (.iconst 0, 1) := by decide +kernel
theorem dX2_copy_50 : decode cX2_copy 50 = .ok (.aload_n 0, 1) := by decide +kernel
theorem dX2_copy_51 : decode cX2_copy 51 = .ok (.getfield 21, 3) := by decide +kernel
theorem dX2_copy_54 : decode cX2_copy 54 = .ok (.iconst 0, 1) := by decide +kernel
theorem dX2_copy_55 : decode cX2_copy 55 = .ok (.bipush 6, 2) := by decide +kernel
theorem dX2_copy_57 : decode cX2_copy 57 = .ok (.invokestatic 49, 3) := by decide +kernel
theorem dX2_copy_60 : decode cX2_copy 60 = .ok (.aload_n 1, 1) := by decide +kernel
theorem dX2_copy_61 : decode cX2_copy 61 = .ok (.getfield 24, 3) := by decide +kernel
theorem dX2_copy_64 : decode cX2_copy 64 = .ok (.iconst 0, 1) := by decide +kernel
theorem dX2_copy_65 : decode cX2_copy 65 = .ok (.aload_n 0, 1) := by decide +kernel
theorem dX2_copy_66 : decode cX2_copy 66 = .ok (.getfield 24, 3) := by decide +kernel
theorem dX2_copy_69 : decode cX2_copy 69 = .ok (.iconst 0, 1) := by decide +kernel
theorem dX2_copy_70 : decode cX2_copy 70 = .ok (.bipush 6, 2) := by decide +kernel
theorem dX2_copy_72 : decode cX2_copy 72 = .ok (.invokestatic 49, 3) := by decide +kernel
theorem dX2_copy_75 : decode cX2_copy 75 = .ok (.aload_n 1, 1) := by decide +kernel
theorem dX2_copy_76 : decode cX2_copy 76 = .ok (.getfield 27, 3) := by decide +kernel
theorem dX2_copy_79 : decode cX2_copy 79 = .ok (.iconst 0, 1) := by decide +kernel
theorem dX2_copy_80 : decode cX2_copy 80 = .ok (.aload_n 0, 1) := by decide +kernel
theorem dX2_copy_81 : decode cX2_copy 81 = .ok (.getfield 27, 3) := by decide +kernel
theorem dX2_copy_84 : decode cX2_copy 84 = .ok (.iconst 0, 1) := by decide +kernel
theorem dX2_copy_85 : decode cX2_copy 85 = .ok (.bipush 6, 2) := by decide +kernel
theorem dX2_copy_87 : decode cX2_copy 87 = .ok (.invokestatic 49, 3) := by decide +kernel
theorem dX2_copy_90 : decode cX2_copy 90 = .ok (.aload_n 0, 1) := by decide +kernel
theorem dX2_copy_91 : decode cX2_copy 91 = .ok (.aload_n 1, 1) := by decide +kernel
theorem dX2_copy_92 : decode cX2_copy 92 = .ok (.getfield 30, 3) := by decide +kernel
theorem dX2_copy_95 : decode cX2_copy 95 = .ok (.putfield 30, 3) := by decide +kernel
theorem dX2_copy_98 : decode cX2_copy 98 = .ok (.return_, 1) := by decide +kernel
theorem dX2_isAir_0 : decode cX2_isAir 0 = .ok (.aload_n 0, 1) := by decide +kernel
theorem dX2_isAir_1 : decode cX2_isAir 1 = .ok (.getfield 9, 3) := by decide +kernel
theorem dX2_isAir_4 : decode cX2_isAir 4 = .ok (.iload_n 1, 1) := by decide +kernel
theorem dX2_isAir_5 : decode cX2_isAir 5 = .ok (.iaload, 1) := by decide +kernel
theorem dX2_isAir_6 : decode cX2_isAir 6 = .ok (.istore_n 2, 1) := by decide +kernel
theorem dX2_isAir_7 : decode cX2_isAir 7 = .ok (.iload_n 2, 1) := by decide +kernel
theorem dX2_isAir_8 : decode cX2_isAir 8 = .ok (.ifCond .lt 9, 3) := by decide +kernel
theorem dX2_isAir_11 : decode cX2_isAir 11 = .ok (.iload_n 2, 1) := by decide +kernel
theorem dX2_isAir_12 : decode cX2_isAir 12 = .ok (.bipush 6, 2) := by decide +kernel
theorem dX2_isAir_14 : decode cX2_isAir 14 = .ok (.if_icmp .lt 7, 3) := by decide +kernel
theorem dX2_isAir_17 : decode cX2_isAir 17 = .ok (.iconst 1, 1) := by decide +kernel
theorem dX2_isAir_18 : decode cX2_isAir 18 = .ok (.goto 4, 3) := by decide +kernel
theorem dX2_isAir_21 : decode cX2_isAir 21 = .ok (.iconst 0, 1) := by decide +kernel
theorem dX2_isAir_22 : decode cX2_isAir 22 = .ok (.ireturn, 1) := by decide +kernel
theorem dX2_isEarth_0 : decode cX2_isEarth 0 = .ok (.aload_n 0, 1) := by decide +kernel
theorem dX2_isEarth_1 : decode cX2_isEarth 1 = .ok (.iload_n 1, 1) := by decide +kernel
theorem dX2_isEarth_2 : decode cX2_isEarth 2 = .ok (.invokevirtual 55, 3) := by decide +kernel
theorem dX2_isEarth_5 : decode cX2_isEarth 5 = .ok (.ifCond .ne 16, 3) := by decide +kernel
theorem dX2_isEarth_8 : decode cX2_isEarth 8 = .ok (.aload_n 0, 1) := by decide +kernel
theorem dX2_isEarth_9 : decode cX2_isEarth 9 = .ok (.getfield 18, 3) := by decide +kernel
theorem dX2_isEarth_12 : decode cX2_isEarth 12 = .ok (.iload_n 1, 1) := by decide +kernel
theorem dX2_isEarth_13 : decode cX2_isEarth 13 = .ok (.iaload, 1) := by decide +kernel
theorem dX2_isEarth_14 : decode cX2_isEarth 14 = .ok (.ifCond .ne 7, 3) := by decide +kernel
theorem dX2_isEarth_17 : decode cX2_isEarth 17 = .ok (.iconst 1, 1) := by decide +kernel
theorem dX2_isEarth_18 : decode cX2_isEarth 18 = .ok (.goto 4, 3) := by decide +kernel
theorem dX2_isEarth_21 : decode cX2_isEarth 21 = .ok (.iconst 0, 1) := by decide +kernel
theorem dX2_isEarth_22 : decode cX2_isEarth 22 = .ok (.ireturn, 1) := by decide +kernel
theorem dX2_holdAt_0 : decode cX2_holdAt 0 = .ok (.aload_n 0, 1) := by decide +kernel
theorem dX2_holdAt_1 : decode cX2_holdAt 1 = .ok (.iload_n 1, 1) := by decide +kernel
theorem dX2_holdAt_2 : decode cX2_holdAt 2 = .ok (.invokevirtual 55, 3) := by decide +kernel
theorem dX2_holdAt_5 : decode cX2_holdAt 5 = .ok (.ifCond .eq 7, 3) := by decide +kernel
theorem dX2_holdAt_8 : decode cX2_holdAt 8 = .ok (.iconst 0, 1) := by decide +kernel
theorem dX2_holdAt_9 : decode cX2_holdAt 9 = .ok (.goto 14, 3) := by decide +kernel
theorem dX2_holdAt_12 : decode cX2_holdAt 12 = .ok (.aload_n 0, 1) := by decide +kernel
theorem dX2_holdAt_13 : decode cX2_holdAt 13 = .ok (.getfield 24, 3) := by decide +kernel
theorem dX2_holdAt_16 : decode cX2_holdAt 16 = .ok (.aload_n 0, 1) := by decide +kernel
theorem dX2_holdAt_17 : decode cX2_holdAt 17 = .ok (.getfield 9, 3) := by decide +kernel
theorem dX2_holdAt_20 : decode cX2_holdAt 20 = .ok (.iload_n 1, 1) := by decide +kernel
theorem dX2_holdAt_21 : decode cX2_holdAt 21 = .ok (.iaload, 1) := by decide +kernel
theorem dX2_holdAt_22 : decode cX2_holdAt 22 = .ok (.iaload, 1) := by decide +kernel
theorem dX2_holdAt_23 : decode cX2_holdAt 23 = .ok (.ireturn, 1) := by decide +kernel
theorem dX2_grainAt_0 : decode cX2_grainAt 0 = .ok (.aload_n 0, 1) := by decide +kernel
theorem dX2_grainAt_1 : decode cX2_grainAt 1 = .ok (.iload_n 1, 1) := by decide +kernel
theorem dX2_grainAt_2 : decode cX2_grainAt 2 = .ok (.invokevirtual 55, 3) := by decide +kernel
theorem dX2_grainAt_5 : decode cX2_grainAt 5 = .ok (.ifCond .eq 7, 3) := by decide +kernel
theorem dX2_grainAt_8 : decode cX2_grainAt 8 = .ok (.iconst 0, 1) := by decide +kernel
theorem dX2_grainAt_9 : decode cX2_grainAt 9 = .ok (.goto 14, 3) := by decide +kernel
theorem dX2_grainAt_12 : decode cX2_grainAt 12 = .ok (.aload_n 0, 1) := by decide +kernel
theorem dX2_grainAt_13 : decode cX2_grainAt 13 = .ok (.getfield 27, 3) := by decide +kernel
theorem dX2_grainAt_16 : decode cX2_grainAt 16 = .ok (.aload_n 0, 1) := by decide +kernel
theorem dX2_grainAt_17 : decode cX2_grainAt 17 = .ok (.getfield 9, 3) := by decide +kernel
theorem dX2_grainAt_20 : decode cX2_grainAt 20 = .ok (.iload_n 1, 1) := by decide +kernel
theorem dX2_grainAt_21 : decode cX2_grainAt 21 = .ok (.iaload, 1) := by decide +kernel
theorem dX2_grainAt_22 : decode cX2_grainAt 22 = .ok (.iaload, 1) := by decide +kernel
theorem dX2_grainAt_23 : decode cX2_grainAt 23 = .ok (.ireturn, 1) := by decide +kernel
theorem dX2_pushAt_0 : decode cX2_pushAt 0 = .ok (.iconst 0, 1) := by decide +kernel
theorem dX2_pushAt_1 : decode cX2_pushAt 1 = .ok (.aload_n 0, 1) := by decide +kernel
theorem dX2_pushAt_2 : decode cX2_pushAt 2 = .ok (.getfield 15, 3) := by decide +kernel
theorem dX2_pushAt_5 : decode cX2_pushAt 5 = .ok (.iload_n 1, 1) := by decide +kernel
theorem dX2_pushAt_6 : decode cX2_pushAt 6 = .ok (.iaload, 1) := by decide +kernel
theorem dX2_pushAt_7 : decode cX2_pushAt 7 = .ok (.sipush 1000, 3) := by decide +kernel
theorem dX2_pushAt_10 : decode cX2_pushAt 10 = .ok (.iload_n 1, 1) := by decide +kernel
theorem dX2_pushAt_11 : decode cX2_pushAt 11 = .ok (.bipush 8, 2) := by decide +kernel
theorem dX2_pushAt_13 : decode cX2_pushAt 13 = .ok (.idiv, 1) := by decide +kernel
theorem dX2_pushAt_14 : decode cX2_pushAt 14 = .ok (.imul, 1) := by decide +kernel
theorem dX2_pushAt_15 : decode cX2_pushAt 15 = .ok (.isub, 1) := by decide +kernel
theorem dX2_pushAt_16 : decode cX2_pushAt 16 = .ok (.invokestatic 59, 3) := by decide +kernel
theorem dX2_pushAt_19 : decode cX2_pushAt 19 = .ok (.ireturn, 1) := by decide +kernel
theorem dX2_isWet_0 : decode cX2_isWet 0 = .ok (.aload_n 0, 1) := by decide +kernel
theorem dX2_isWet_1 : decode cX2_isWet 1 = .ok (.iload_n 1, 1) := by decide +kernel
theorem dX2_isWet_2 : decode cX2_isWet 2 = .ok (.invokevirtual 65, 3) := by decide +kernel
theorem dX2_isWet_5 : decode cX2_isWet 5 = .ok (.ifCond .eq 15, 3) := by decide +kernel
theorem dX2_isWet_8 : decode cX2_isWet 8 = .ok (.aload_n 0, 1) := by decide +kernel
theorem dX2_isWet_9 : decode cX2_isWet 9 = .ok (.iload_n 1, 1) := by decide +kernel
theorem dX2_isWet_10 : decode cX2_isWet 10 = .ok (.invokevirtual 68, 3) := by decide +kernel
theorem dX2_isWet_13 : decode cX2_isWet 13 = .ok (.ifCond .le 7, 3) := by decide +kernel
theorem dX2_isWet_16 : decode cX2_isWet 16 = .ok (.iconst 1, 1) := by decide +kernel
theorem dX2_isWet_17 : decode cX2_isWet 17 = .ok (.goto 4, 3) := by decide +kernel
theorem dX2_isWet_20 : decode cX2_isWet 20 = .ok (.iconst 0, 1) := by decide +kernel
theorem dX2_isWet_21 : decode cX2_isWet 21 = .ok (.ireturn, 1) := by decide +kernel
theorem dX2_earthCells_0 : decode cX2_earthCells 0 = .ok (.iconst 0, 1) := by decide +kernel
theorem dX2_earthCells_1 : decode cX2_earthCells 1 = .ok (.istore_n 1, 1) := by decide +kernel
theorem dX2_earthCells_2 : decode cX2_earthCells 2 = .ok (.iconst 0, 1) := by decide +kernel
theorem dX2_earthCells_3 : decode cX2_earthCells 3 = .ok (.istore_n 2, 1) := by decide +kernel
theorem dX2_earthCells_4 : decode cX2_earthCells 4 = .ok (.iload_n 2, 1) := by decide +kernel
theorem dX2_earthCells_5 : decode cX2_earthCells 5 = .ok (.bipush 48, 2) := by decide +kernel
theorem dX2_earthCells_7 : decode cX2_earthCells 7 = .ok (.if_icmp .ge 20, 3) := by decide +kernel
theorem dX2_earthCells_10 : decode cX2_earthCells 10 = .ok (.aload_n 0, 1) := by decide +kernel
theorem dX2_earthCells_11 : decode cX2_earthCells 11 = .ok (.iload_n 2, 1) := by decide +kernel
theorem dX2_earthCells_12 : decode cX2_earthCells 12 = .ok (.invokevirtual 65, 3) := by decide +kernel
theorem dX2_earthCells_15 : decode cX2_earthCells 15 = .ok (.ifCond .eq 6, 3) := by decide +kernel
theorem dX2_earthCells_18 : decode cX2_earthCells 18 = .ok (.iinc 1 1, 3) := by decide +kernel
theorem dX2_earthCells_21 : decode cX2_earthCells 21 = .ok (.iinc 2 1, 3) := by decide +kernel
theorem dX2_earthCells_24 : decode cX2_earthCells 24 = .ok (.goto (-20), 3) := by decide +kernel
theorem dX2_earthCells_27 : decode cX2_earthCells 27 = .ok (.iload_n 1, 1) := by decide +kernel
theorem dX2_earthCells_28 : decode cX2_earthCells 28 = .ok (.ireturn, 1) := by decide +kernel
theorem dX2_goneCells_0 : decode cX2_goneCells 0 = .ok (.iconst 0, 1) := by decide +kernel
theorem dX2_goneCells_1 : decode cX2_goneCells 1 = .ok (.istore_n 1, 1) := by decide +kernel
theorem dX2_goneCells_2 : decode cX2_goneCells 2 = .ok (.iconst 0, 1) := by decide +kernel
theorem dX2_goneCells_3 : decode cX2_goneCells 3 = .ok (.istore_n 2, 1) := by decide +kernel
theorem dX2_goneCells_4 : decode cX2_goneCells 4 = .ok (.iload_n 2, 1) := by decide +kernel
theorem dX2_goneCells_5 : decode cX2_goneCells 5 = .ok (.bipush 48, 2) := by decide +kernel
theorem dX2_goneCells_7 : decode cX2_goneCells 7 = .ok (.if_icmp .ge 18, 3) := by decide +kernel
theorem dX2_goneCells_10 : decode cX2_goneCells 10 = .ok (.iload_n 1, 1) := by decide +kernel
theorem dX2_goneCells_11 : decode cX2_goneCells 11 = .ok (.aload_n 0, 1) := by decide +kernel
theorem dX2_goneCells_12 : decode cX2_goneCells 12 = .ok (.getfield 18, 3) := by decide +kernel
theorem dX2_goneCells_15 : decode cX2_goneCells 15 = .ok (.iload_n 2, 1) := by decide +kernel
theorem dX2_goneCells_16 : decode cX2_goneCells 16 = .ok (.iaload, 1) := by decide +kernel
theorem dX2_goneCells_17 : decode cX2_goneCells 17 = .ok (.iadd, 1) := by decide +kernel
theorem dX2_goneCells_18 : decode cX2_goneCells 18 = .ok (.istore_n 1, 1) := by decide +kernel
theorem dX2_goneCells_19 : decode cX2_goneCells 19 = .ok (.iinc 2 1, 3) := by decide +kernel
theorem dX2_goneCells_22 : decode cX2_goneCells 22 = .ok (.goto (-18), 3) := by decide +kernel
theorem dX2_goneCells_25 : decode cX2_goneCells 25 = .ok (.iload_n 1, 1) := by decide +kernel
theorem dX2_goneCells_26 : decode cX2_goneCells 26 = .ok (.ireturn, 1) := by decide +kernel
theorem dX2_wetCells_0 : decode cX2_wetCells 0 = .ok (.iconst 0, 1) := by decide +kernel
theorem dX2_wetCells_1 : decode cX2_wetCells 1 = .ok (.istore_n 1, 1) := by decide +kernel
theorem dX2_wetCells_2 : decode cX2_wetCells 2 = .ok (.iconst 0, 1) := by decide +kernel
theorem dX2_wetCells_3 : decode cX2_wetCells 3 = .ok (.istore_n 2, 1) := by decide +kernel
theorem dX2_wetCells_4 : decode cX2_wetCells 4 = .ok (.iload_n 2, 1) := by decide +kernel
theorem dX2_wetCells_5 : decode cX2_wetCells 5 = .ok (.bipush 48, 2) := by decide +kernel
theorem dX2_wetCells_7 : decode cX2_wetCells 7 = .ok (.if_icmp .ge 20, 3) := by decide +kernel
theorem dX2_wetCells_10 : decode cX2_wetCells 10 = .ok (.aload_n 0, 1) := by decide +kernel
theorem dX2_wetCells_11 : decode cX2_wetCells 11 = .ok (.iload_n 2, 1) := by decide +kernel
theorem dX2_wetCells_12 : decode cX2_wetCells 12 = .ok (.invokevirtual 72, 3) := by decide +kernel
theorem dX2_wetCells_15 : decode cX2_wetCells 15 = .ok (.ifCond .eq 6, 3) := by decide +kernel
theorem dX2_wetCells_18 : decode cX2_wetCells 18 = .ok (.iinc 1 1, 3) := by decide +kernel
theorem dX2_wetCells_21 : decode cX2_wetCells 21 = .ok (.iinc 2 1, 3) := by decide +kernel
theorem dX2_wetCells_24 : decode cX2_wetCells 24 = .ok (.goto (-20), 3) := by decide +kernel
theorem dX2_wetCells_27 : decode cX2_wetCells 27 = .ok (.iload_n 1, 1) := by decide +kernel
theorem dX2_wetCells_28 : decode cX2_wetCells 28 = .ok (.ireturn, 1) := by decide +kernel
theorem dX2_dropHeads_0 : decode cX2_dropHeads 0 = .ok (.iconst 0, 1) := by decide +kernel
theorem dX2_dropHeads_1 : decode cX2_dropHeads 1 = .ok (.istore_n 1, 1) := by decide +kernel
theorem dX2_dropHeads_2 : decode cX2_dropHeads 2 = .ok (.iconst 0, 1) := by decide +kernel
theorem dX2_dropHeads_3 : decode cX2_dropHeads 3 = .ok (.istore_n 2, 1) := by decide +kernel
theorem dX2_dropHeads_4 : decode cX2_dropHeads 4 = .ok (.iload_n 2, 1) := by decide +kernel
theorem dX2_dropHeads_5 : decode cX2_dropHeads 5 = .ok (.bipush 48, 2) := by decide +kernel
theorem dX2_dropHeads_7 : decode cX2_dropHeads 7 = .ok (.if_icmp .ge 28, 3) := by decide +kernel
theorem dX2_dropHeads_10 : decode cX2_dropHeads 10 = .ok (.aload_n 0, 1) := by decide +kernel
theorem dX2_dropHeads_11 : decode cX2_dropHeads 11 = .ok (.getfield 15, 3) := by decide +kernel
theorem dX2_dropHeads_14 : decode cX2_dropHeads 14 = .ok (.iload_n 2, 1) := by decide +kernel
theorem dX2_dropHeads_15 : decode cX2_dropHeads 15 = .ok (.iaload, 1) := by decide +kernel
theorem dX2_dropHeads_16 : decode cX2_dropHeads 16 = .ok (.ifCond .le 6, 3) := by decide +kernel
theorem dX2_dropHeads_19 : decode cX2_dropHeads 19 = .ok (.iinc 1 1, 3) := by decide +kernel
theorem dX2_dropHeads_22 : decode cX2_dropHeads 22 = .ok (.aload_n 0, 1) := by decide +kernel
theorem dX2_dropHeads_23 : decode cX2_dropHeads 23 = .ok (.getfield 15, 3) := by decide +kernel
theorem dX2_dropHeads_26 : decode cX2_dropHeads 26 = .ok (.iload_n 2, 1) := by decide +kernel
theorem dX2_dropHeads_27 : decode cX2_dropHeads 27 = .ok (.iconst 0, 1) := by decide +kernel
theorem dX2_dropHeads_28 : decode cX2_dropHeads 28 = .ok (.iastore, 1) := by decide +kernel
theorem dX2_dropHeads_29 : decode cX2_dropHeads 29 = .ok (.iinc 2 1, 3) := by decide +kernel
theorem dX2_dropHeads_32 : decode cX2_dropHeads 32 = .ok (.goto (-28), 3) := by decide +kernel
theorem dX2_dropHeads_35 : decode cX2_dropHeads 35 = .ok (.iload_n 1, 1) := by decide +kernel
theorem dX2_dropHeads_36 : decode cX2_dropHeads 36 = .ok (.ireturn, 1) := by decide +kernel
theorem dX2_soakAnew_0 : decode cX2_soakAnew 0 = .ok (.aload_n 0, 1) := by decide +kernel
theorem dX2_soakAnew_1 : decode cX2_soakAnew 1 = .ok (.invokevirtual 75, 3) := by decide +kernel
theorem dX2_soakAnew_4 : decode cX2_soakAnew 4 = .ok (.pop, 1) := by decide +kernel
theorem dX2_soakAnew_5 : decode cX2_soakAnew 5 = .ok (.aload_n 0, 1) := by decide +kernel
theorem dX2_soakAnew_6 : decode cX2_soakAnew 6 = .ok (.bipush 40, 2) := by decide +kernel
theorem dX2_soakAnew_8 : decode cX2_soakAnew 8 = .ok (.invokevirtual 79, 3) := by decide +kernel
theorem dX2_soakAnew_11 : decode cX2_soakAnew 11 = .ok (.return_, 1) := by decide +kernel
theorem dX2_runSweeps_0 : decode cX2_runSweeps 0 = .ok (.aload_n 0, 1) := by decide +kernel
theorem dX2_runSweeps_1 : decode cX2_runSweeps 1 = .ok (.invokevirtual 83, 3) := by decide +kernel
theorem dX2_runSweeps_4 : decode cX2_runSweeps 4 = .ok (.iconst 0, 1) := by decide +kernel
theorem dX2_runSweeps_5 : decode cX2_runSweeps 5 = .ok (.istore_n 2, 1) := by decide +kernel
theorem dX2_runSweeps_6 : decode cX2_runSweeps 6 = .ok (.iload_n 2, 1) := by decide +kernel
theorem dX2_runSweeps_7 : decode cX2_runSweeps 7 = .ok (.iload_n 1, 1) := by decide +kernel
theorem dX2_runSweeps_8 : decode cX2_runSweeps 8 = .ok (.if_icmp .ge 17, 3) := by decide +kernel
theorem dX2_runSweeps_11 : decode cX2_runSweeps 11 = .ok (.aload_n 0, 1) := by decide +kernel
theorem dX2_runSweeps_12 : decode cX2_runSweeps 12 = .ok (.invokevirtual 86, 3) := by decide +kernel
theorem dX2_runSweeps_15 : decode cX2_runSweeps 15 = .ok (.aload_n 0, 1) := by decide +kernel
theorem dX2_runSweeps_16 : decode cX2_runSweeps 16 = .ok (.invokevirtual 89, 3) := by decide +kernel
theorem dX2_runSweeps_19 : decode cX2_runSweeps 19 = .ok (.iinc 2 1, 3) := by decide +kernel
theorem dX2_runSweeps_22 : decode cX2_runSweeps 22 = .ok (.goto (-16), 3) := by decide +kernel
theorem dX2_runSweeps_25 : decode cX2_runSweeps 25 = .ok (.return_, 1) := by decide +kernel
theorem dX2_notePassing_0 : decode cX2_notePassing 0 = .ok (.iconst 0, 1) := by decide +kernel
theorem dX2_notePassing_1 : decode cX2_notePassing 1 = .ok (.istore_n 1, 1) := by decide +kernel
theorem dX2_notePassing_2 : decode cX2_notePassing 2 = .ok (.iload_n 1, 1) := by decide +kernel
theorem dX2_notePassing_3 : decode cX2_notePassing 3 = .ok (.bipush 48, 2) := by decide +kernel
theorem dX2_notePassing_5 : decode cX2_notePassing 5 = .ok (.if_icmp .ge 38, 3) := by decide +kernel
theorem dX2_notePassing_8 : decode cX2_notePassing 8 = .ok (.aload_n 0, 1) := by decide +kernel
theorem dX2_notePassing_9 : decode cX2_notePassing 9 = .ok (.getfield 37, 3) := by decide +kernel
theorem dX2_notePassing_12 : decode cX2_notePassing 12 = .ok (.iload_n 1, 1) := by decide +kernel
theorem dX2_notePassing_13 : decode cX2_notePassing 13 = .ok (.aload_n 0, 1) := by decide +kernel
theorem dX2_notePassing_14 : decode cX2_notePassing 14 = .ok (.iload_n 1, 1) := by decide +kernel
theorem dX2_notePassing_15 : decode cX2_notePassing 15 = .ok (.invokevirtual 65, 3) := by decide +kernel
theorem dX2_notePassing_18 : decode cX2_notePassing 18 = .ok (.ifCond .eq 17, 3) := by decide +kernel
theorem dX2_notePassing_21 : decode cX2_notePassing 21 = .ok (.aload_n 0, 1) := by decide +kernel
theorem dX2_notePassing_22 : decode cX2_notePassing 22 = .ok (.getfield 21, 3) := by decide +kernel
theorem dX2_notePassing_25 : decode cX2_notePassing 25 = .ok (.aload_n 0, 1) := by decide +kernel
theorem dX2_notePassing_26 : decode cX2_notePassing 26 = .ok (.getfield 9, 3) := by decide +kernel
theorem dX2_notePassing_29 : decode cX2_notePassing 29 = .ok (.iload_n 1, 1) := by decide +kernel
theorem dX2_notePassing_30 : decode cX2_notePassing 30 = .ok (.iaload, 1) := by decide +kernel
theorem dX2_notePassing_31 : decode cX2_notePassing 31 = .ok (.iaload, 1) := by decide +kernel
theorem dX2_notePassing_32 : decode cX2_notePassing 32 = .ok (.goto 4, 3) := by decide +kernel
theorem dX2_notePassing_35 : decode cX2_notePassing 35 = .ok (.iconst 0, 1) := by decide +kernel
theorem dX2_notePassing_36 : decode cX2_notePassing 36 = .ok (.iastore, 1) := by decide +kernel
theorem dX2_notePassing_37 : decode cX2_notePassing 37 = .ok (.iinc 1 1, 3) := by decide +kernel
theorem dX2_notePassing_40 : decode cX2_notePassing 40 = .ok (.goto (-38), 3) := by decide +kernel
theorem dX2_notePassing_43 : decode cX2_notePassing 43 = .ok (.return_, 1) := by decide +kernel
theorem dX2_fixEnds_0 : decode cX2_fixEnds 0 = .ok (.iconst 0, 1) := by decide +kernel
theorem dX2_fixEnds_1 : decode cX2_fixEnds 1 = .ok (.istore_n 1, 1) := by decide +kernel
theorem dX2_fixEnds_2 : decode cX2_fixEnds 2 = .ok (.iload_n 1, 1) := by decide +kernel
theorem dX2_fixEnds_3 : decode cX2_fixEnds 3 = .ok (.bipush 48, 2) := by decide +kernel
theorem dX2_fixEnds_5 : decode cX2_fixEnds 5 = .ok (.if_icmp .ge 58, 3) := by decide +kernel
theorem dX2_fixEnds_8 : decode cX2_fixEnds 8 = .ok (.aload_n 0, 1) := by decide +kernel
theorem dX2_fixEnds_9 : decode cX2_fixEnds 9 = .ok (.getfield 37, 3) := by decide +kernel
theorem dX2_fixEnds_12 : decode cX2_fixEnds 12 = .ok (.iload_n 1, 1) := by decide +kernel
theorem dX2_fixEnds_13 : decode cX2_fixEnds 13 = .ok (.iaload, 1) := by decide +kernel
theorem dX2_fixEnds_14 : decode cX2_fixEnds 14 = .ok (.ifCond .ne 6, 3) := by decide +kernel
theorem dX2_fixEnds_17 : decode cX2_fixEnds 17 = .ok (.goto 40, 3) := by decide +kernel
theorem dX2_fixEnds_20 : decode cX2_fixEnds 20 = .ok (.aload_n 0, 1) := by decide +kernel
theorem dX2_fixEnds_21 : decode cX2_fixEnds 21 = .ok (.iload_n 1, 1) := by decide +kernel
theorem dX2_fixEnds_22 : decode cX2_fixEnds 22 = .ok (.invokevirtual 92, 3) := by decide +kernel
theorem dX2_fixEnds_25 : decode cX2_fixEnds 25 = .ok (.ifCond .eq 17, 3) := by decide +kernel
theorem dX2_fixEnds_28 : decode cX2_fixEnds 28 = .ok (.aload_n 0, 1) := by decide +kernel
theorem dX2_fixEnds_29 : decode cX2_fixEnds 29 = .ok (.getfield 15, 3) := by decide +kernel
theorem dX2_fixEnds_32 : decode cX2_fixEnds 32 = .ok (.iload_n 1, 1) := by decide +kernel
theorem dX2_fixEnds_33 : decode cX2_fixEnds 33 = .ok (.sipush 1000, 3) := by decide +kernel
theorem dX2_fixEnds_36 : decode cX2_fixEnds 36 = .ok (.aload_n 0, 1) := by decide +kernel
theorem dX2_fixEnds_37 : decode cX2_fixEnds 37 = .ok (.getfield 30, 3) := by decide +kernel
theorem dX2_fixEnds_40 : decode cX2_fixEnds 40 = .ok (.imul, 1) := by decide +kernel
theorem dX2_fixEnds_41 : decode cX2_fixEnds 41 = .ok (.iastore, 1) := by decide +kernel
theorem dX2_fixEnds_42 : decode cX2_fixEnds 42 = .ok (.aload_n 0, 1) := by decide +kernel
theorem dX2_fixEnds_43 : decode cX2_fixEnds 43 = .ok (.iload_n 1, 1) := by decide +kernel
theorem dX2_fixEnds_44 : decode cX2_fixEnds 44 = .ok (.invokevirtual 95, 3) := by decide +kernel
theorem dX2_fixEnds_47 : decode cX2_fixEnds 47 = .ok (.ifCond .eq 10, 3) := by decide +kernel
theorem dX2_fixEnds_50 : decode cX2_fixEnds 50 = .ok (.aload_n 0, 1) := by decide +kernel
theorem dX2_fixEnds_51 : decode cX2_fixEnds 51 = .ok (.getfield 15, 3) := by decide +kernel
theorem dX2_fixEnds_54 : decode cX2_fixEnds 54 = .ok (.iload_n 1, 1) := by decide +kernel
theorem dX2_fixEnds_55 : decode cX2_fixEnds 55 = .ok (.iconst 0, 1) := by decide +kernel
theorem dX2_fixEnds_56 : decode cX2_fixEnds 56 = .ok (.iastore, 1) := by decide +kernel
theorem dX2_fixEnds_57 : decode cX2_fixEnds 57 = .ok (.iinc 1 1, 3) := by decide +kernel
theorem dX2_fixEnds_60 : decode cX2_fixEnds 60 = .ok (.goto (-58), 3) := by decide +kernel
theorem dX2_fixEnds_63 : decode cX2_fixEnds 63 = .ok (.return_, 1) := by decide +kernel
theorem dX2_levelOthers_0 : decode cX2_levelOthers 0 = .ok (.iconst 0, 1) := by decide +kernel
theorem dX2_levelOthers_1 : decode cX2_levelOthers 1 = .ok (.istore_n 1, 1) := by decide +kernel
theorem dX2_levelOthers_2 : decode cX2_levelOthers 2 = .ok (.iload_n 1, 1) := by decide +kernel
theorem dX2_levelOthers_3 : decode cX2_levelOthers 3 = .ok (.bipush 48, 2) := by decide +kernel
theorem dX2_levelOthers_5 : decode cX2_levelOthers 5 = .ok (.if_icmp .ge 60, 3) := by decide +kernel
theorem dX2_levelOthers_8 : decode cX2_levelOthers 8 = .ok (.aload_n 0, 1) := by decide +kernel
theorem dX2_levelOthers_9 : decode cX2_levelOthers 9 = .ok (.getfield 37, 3) := by decide +kernel
theorem dX2_levelOthers_12 : decode cX2_levelOthers 12 = .ok (.iload_n 1, 1) := by decide +kernel
theorem dX2_levelOthers_13 : decode cX2_levelOthers 13 = .ok (.iaload, 1) := by decide +kernel
theorem dX2_levelOthers_14 : decode cX2_levelOthers 14 = .ok (.ifCond .eq 45, 3) := by decide +kernel
theorem dX2_levelOthers_17 : decode cX2_levelOthers 17 = .ok (.aload_n 0, 1) := by decide +kernel
theorem dX2_levelOthers_18 : decode cX2_levelOthers 18 = .ok (.iload_n 1, 1) := by decide +kernel
theorem dX2_levelOthers_19 : decode cX2_levelOthers 19 = .ok (.invokevirtual 92, 3) := by decide +kernel
theorem dX2_levelOthers_22 : decode cX2_levelOthers 22 = .ok (.ifCond .ne 37, 3) := by decide +kernel
theorem dX2_levelOthers_25 : decode cX2_levelOthers 25 = .ok (.aload_n 0, 1) := by decide +kernel
theorem dX2_levelOthers_26 : decode cX2_levelOthers 26 = .ok (.iload_n 1, 1) := by decide +kernel
theorem dX2_levelOthers_27 : decode cX2_levelOthers 27 = .ok (.invokevirtual 95, 3) := by decide +kernel
theorem dX2_levelOthers_30 : decode cX2_levelOthers 30 = .ok (.ifCond .eq 6, 3) := by decide +kernel
theorem dX2_levelOthers_33 : decode cX2_levelOthers 33 = .ok (.goto 26, 3) := by decide +kernel
theorem dX2_levelOthers_36 : decode cX2_levelOthers 36 = .ok (.aload_n 0, 1) := by decide +kernel
theorem dX2_levelOthers_37 : decode cX2_levelOthers 37 = .ok (.iload_n 1, 1) := by decide +kernel
theorem dX2_levelOthers_38 : decode cX2_levelOthers 38 = .ok (.invokevirtual 98, 3) := by decide +kernel
theorem dX2_levelOthers_41 : decode cX2_levelOthers 41 = .ok (.istore_n 2, 1) := by decide +kernel
theorem dX2_levelOthers_42 : decode cX2_levelOthers 42 = .ok (.iload_n 2, 1) := by decide +kernel
theorem dX2_levelOthers_43 : decode cX2_levelOthers 43 = .ok (.ifCond .le 16, 3) := by decide +kernel
theorem dX2_levelOthers_46 : decode cX2_levelOthers 46 = .ok (.aload_n 0, 1) := by decide +kernel
theorem dX2_levelOthers_47 : decode cX2_levelOthers 47 = .ok (.getfield 15, 3) := by decide +kernel
theorem dX2_levelOthers_50 : decode cX2_levelOthers 50 = .ok (.iload_n 1, 1) := by decide +kernel
theorem dX2_levelOthers_51 : decode cX2_levelOthers 51 = .ok (.aload_n 0, 1) := by decide +kernel
theorem dX2_levelOthers_52 : decode cX2_levelOthers 52 = .ok (.iload_n 1, 1) := by decide +kernel
theorem dX2_levelOthers_53 : decode cX2_levelOthers 53 = .ok (.invokevirtual 101, 3) := by decide +kernel
theorem dX2_levelOthers_56 : decode cX2_levelOthers 56 = .ok (.iload_n 2, 1) := by decide +kernel
theorem dX2_levelOthers_57 : decode cX2_levelOthers 57 = .ok (.idiv, 1) := by decide +kernel
theorem dX2_levelOthers_58 : decode cX2_levelOthers 58 = .ok (.iastore, 1) := by decide +kernel
theorem dX2_levelOthers_59 : decode cX2_levelOthers 59 = .ok (.iinc 1 1, 3) := by decide +kernel
theorem dX2_levelOthers_62 : decode cX2_levelOthers 62 = .ok (.goto (-60), 3) := by decide +kernel
theorem dX2_levelOthers_65 : decode cX2_levelOthers 65 = .ok (.return_, 1) := by decide +kernel
theorem dX2_isAtLake_0 : decode cX2_isAtLake 0 = .ok (.iload_n 1, 1) := by decide +kernel
theorem dX2_isAtLake_1 : decode cX2_isAtLake 1 = .ok (.bipush 8, 2) := by decide +kernel
theorem dX2_isAtLake_3 : decode cX2_isAtLake 3 = .ok (.irem, 1) := by decide +kernel
theorem dX2_isAtLake_4 : decode cX2_isAtLake 4 = .ok (.ifCond .ne 18, 3) := by decide +kernel
theorem dX2_isAtLake_7 : decode cX2_isAtLake 7 = .ok (.iload_n 1, 1) := by decide +kernel
theorem dX2_isAtLake_8 : decode cX2_isAtLake 8 = .ok (.bipush 8, 2) := by decide +kernel
theorem dX2_isAtLake_10 : decode cX2_isAtLake 10 = .ok (.idiv, 1) := by decide +kernel
theorem dX2_isAtLake_11 : decode cX2_isAtLake 11 = .ok (.aload_n 0, 1) := by decide +kernel
theorem dX2_isAtLake_12 : decode cX2_isAtLake 12 = .ok (.getfield 30, 3) := by decide +kernel
theorem dX2_isAtLake_15 : decode cX2_isAtLake 15 = .ok (.if_icmp .ge 7, 3) := by decide +kernel
theorem dX2_isAtLake_18 : decode cX2_isAtLake 18 = .ok (.iconst 1, 1) := by decide +kernel
theorem dX2_isAtLake_19 : decode cX2_isAtLake 19 = .ok (.goto 4, 3) := by decide +kernel
theorem dX2_isAtLake_22 : decode cX2_isAtLake 22 = .ok (.iconst 0, 1) := by decide +kernel
theorem dX2_isAtLake_23 : decode cX2_isAtLake 23 = .ok (.ireturn, 1) := by decide +kernel
theorem dX2_isAtFoot_0 : decode cX2_isAtFoot 0 = .ok (.iload_n 1, 1) := by decide +kernel
theorem dX2_isAtFoot_1 : decode cX2_isAtFoot 1 = .ok (.bipush 7, 2) := by decide +kernel
theorem dX2_isAtFoot_3 : decode cX2_isAtFoot 3 = .ok (.if_icmp .ne 7, 3) := by decide +kernel
theorem dX2_isAtFoot_6 : decode cX2_isAtFoot 6 = .ok (.iconst 1, 1) := by decide +kernel
theorem dX2_isAtFoot_7 : decode cX2_isAtFoot 7 = .ok (.goto 4, 3) := by decide +kernel
theorem dX2_isAtFoot_10 : decode cX2_isAtFoot 10 = .ok (.iconst 0, 1) := by decide +kernel
theorem dX2_isAtFoot_11 : decode cX2_isAtFoot 11 = .ok (.ireturn, 1) := by decide +kernel
theorem dX2_leadsAround_0 : decode cX2_leadsAround 0 = .ok (.iconst 0, 1) := by decide +kernel
theorem dX2_leadsAround_1 : decode cX2_leadsAround 1 = .ok (.istore_n 2, 1) := by decide +kernel
theorem dX2_leadsAround_2 : decode cX2_leadsAround 2 = .ok (.iconst 0, 1) := by decide +kernel
theorem dX2_leadsAround_3 : decode cX2_leadsAround 3 = .ok (.istore_n 3, 1) := by decide +kernel
theorem dX2_leadsAround_4 : decode cX2_leadsAround 4 = .ok (.iload_n 3, 1) := by decide +kernel
theorem dX2_leadsAround_5 : decode cX2_leadsAround 5 = .ok (.getstatic 104, 3) := by decide +kernel
theorem dX2_leadsAround_8 : decode cX2_leadsAround 8 = .ok (.arraylength, 1) := by decide +kernel
theorem dX2_leadsAround_9 : decode cX2_leadsAround 9 = .ok (.if_icmp .ge 42, 3) := by decide +kernel
theorem dX2_leadsAround_12 : decode cX2_leadsAround 12 = .ok (.iload_n 1, 1) := by decide +kernel
theorem dX2_leadsAround_13 : decode cX2_leadsAround 13 = .ok (.iload_n 3, 1) := by decide +kernel
theorem dX2_leadsAround_14 : decode cX2_leadsAround 14 = .ok (.invokestatic 107, 3) := by decide +kernel
theorem dX2_leadsAround_17 : decode cX2_leadsAround 17 = .ok (.istore 4, 2) := by decide +kernel
theorem dX2_leadsAround_19 : decode cX2_leadsAround 19 = .ok (.iload 4, 2) := by decide +kernel
theorem dX2_leadsAround_21 : decode cX2_leadsAround 21 = .ok (.bipush (-9), 2) := by decide +kernel
theorem dX2_leadsAround_23 : decode cX2_leadsAround 23 = .ok (.if_icmp .eq 22, 3) := by decide +kernel
theorem dX2_leadsAround_26 : decode cX2_leadsAround 26 = .ok (.iload_n 2, 1) := by decide +kernel
theorem dX2_leadsAround_27 : decode cX2_leadsAround 27 = .ok (.aload_n 0, 1) := by decide +kernel
theorem dX2_leadsAround_28 : decode cX2_leadsAround 28 = .ok (.getfield 37, 3) := by decide +kernel
theorem dX2_leadsAround_31 : decode cX2_leadsAround 31 = .ok (.iload_n 1, 1) := by decide +kernel
theorem dX2_leadsAround_32 : decode cX2_leadsAround 32 = .ok (.iaload, 1) := by decide +kernel
theorem dX2_leadsAround_33 : decode cX2_leadsAround 33 = .ok (.aload_n 0, 1) := by decide +kernel
theorem dX2_leadsAround_34 : decode cX2_leadsAround 34 = .ok (.getfield 37, 3) := by decide +kernel
theorem dX2_leadsAround_37 : decode cX2_leadsAround 37 = .ok (.iload 4, 2) := by decide +kernel
theorem dX2_leadsAround_39 : decode cX2_leadsAround 39 = .ok (.iaload, 1) := by decide +kernel
theorem dX2_leadsAround_40 : decode cX2_leadsAround 40 = .ok (.invokestatic 110, 3) := by decide +kernel
theorem dX2_leadsAround_43 : decode cX2_leadsAround 43 = .ok (.iadd, 1) := by decide +kernel
theorem dX2_leadsAround_44 : decode cX2_leadsAround 44 = .ok (.istore_n 2, 1) := by decide +kernel
theorem dX2_leadsAround_45 : decode cX2_leadsAround 45 = .ok (.iinc 3 1, 3) := by decide +kernel
theorem dX2_leadsAround_48 : decode cX2_leadsAround 48 = .ok (.goto (-44), 3) := by decide +kernel
theorem dX2_leadsAround_51 : decode cX2_leadsAround 51 = .ok (.iload_n 2, 1) := by decide +kernel
theorem dX2_leadsAround_52 : decode cX2_leadsAround 52 = .ok (.ireturn, 1) := by decide +kernel
theorem dX2_flowInto_0 : decode cX2_flowInto 0 = .ok (.iconst 0, 1) := by decide +kernel
theorem dX2_flowInto_1 : decode cX2_flowInto 1 = .ok (.istore_n 2, 1) := by decide +kernel
theorem dX2_flowInto_2 : decode cX2_flowInto 2 = .ok (.iconst 0, 1) := by decide +kernel
theorem dX2_flowInto_3 : decode cX2_flowInto 3 = .ok (.istore_n 3, 1) := by decide +kernel
theorem dX2_flowInto_4 : decode cX2_flowInto 4 = .ok (.iload_n 3, 1) := by decide +kernel
theorem dX2_flowInto_5 : decode cX2_flowInto 5 = .ok (.getstatic 104, 3) := by decide +kernel
theorem dX2_flowInto_8 : decode cX2_flowInto 8 = .ok (.arraylength, 1) := by decide +kernel
theorem dX2_flowInto_9 : decode cX2_flowInto 9 = .ok (.if_icmp .ge 50, 3) := by decide +kernel
theorem dX2_flowInto_12 : decode cX2_flowInto 12 = .ok (.iload_n 1, 1) := by decide +kernel
theorem dX2_flowInto_13 : decode cX2_flowInto 13 = .ok (.iload_n 3, 1) := by decide +kernel
theorem dX2_flowInto_14 : decode cX2_flowInto 14 = .ok (.invokestatic 107, 3) := by decide +kernel
theorem dX2_flowInto_17 : decode cX2_flowInto 17 = .ok (.istore 4, 2) := by decide +kernel
theorem dX2_flowInto_19 : decode cX2_flowInto 19 = .ok (.iload 4, 2) := by decide +kernel
theorem dX2_flowInto_21 : decode cX2_flowInto 21 = .ok (.bipush (-9), 2) := by decide +kernel
theorem dX2_flowInto_23 : decode cX2_flowInto 23 = .ok (.if_icmp .eq 30, 3) := by decide +kernel
theorem dX2_flowInto_26 : decode cX2_flowInto 26 = .ok (.iload_n 2, 1) := by decide +kernel
theorem dX2_flowInto_27 : decode cX2_flowInto 27 = .ok (.aload_n 0, 1) := by decide +kernel
theorem dX2_flowInto_28 : decode cX2_flowInto 28 = .ok (.getfield 37, 3) := by decide +kernel
theorem dX2_flowInto_31 : decode cX2_flowInto 31 = .ok (.iload_n 1, 1) := by decide +kernel
theorem dX2_flowInto_32 : decode cX2_flowInto 32 = .ok (.iaload, 1) := by decide +kernel
theorem dX2_flowInto_33 : decode cX2_flowInto 33 = .ok (.aload_n 0, 1) := by decide +kernel
theorem dX2_flowInto_34 : decode cX2_flowInto 34 = .ok (.getfield 37, 3) := by decide +kernel
theorem dX2_flowInto_37 : decode cX2_flowInto 37 = .ok (.iload 4, 2) := by decide +kernel
theorem dX2_flowInto_39 : decode cX2_flowInto 39 = .ok (.iaload, 1) := by decide +kernel
theorem dX2_flowInto_40 : decode cX2_flowInto 40 = .ok (.invokestatic 110, 3) := by decide +kernel
theorem dX2_flowInto_43 : decode cX2_flowInto 43 = .ok (.aload_n 0, 1) := by decide +kernel
theorem dX2_flowInto_44 : decode cX2_flowInto 44 = .ok (.getfield 15, 3) := by decide +kernel
theorem dX2_flowInto_47 : decode cX2_flowInto 47 = .ok (.iload 4, 2) := by decide +kernel
theorem dX2_flowInto_49 : decode cX2_flowInto 49 = .ok (.iaload, 1) := by decide +kernel
theorem dX2_flowInto_50 : decode cX2_flowInto 50 = .ok (.imul, 1) := by decide +kernel
theorem dX2_flowInto_51 : decode cX2_flowInto 51 = .ok (.iadd, 1) := by decide +kernel
theorem dX2_flowInto_52 : decode cX2_flowInto 52 = .ok (.istore_n 2, 1) := by decide +kernel
theorem dX2_flowInto_53 : decode cX2_flowInto 53 = .ok (.iinc 3 1, 3) := by decide +kernel
theorem dX2_flowInto_56 : decode cX2_flowInto 56 = .ok (.goto (-52), 3) := by decide +kernel
theorem dX2_flowInto_59 : decode cX2_flowInto 59 = .ok (.iload_n 2, 1) := by decide +kernel
theorem dX2_flowInto_60 : decode cX2_flowInto 60 = .ok (.ireturn, 1) := by decide +kernel
theorem dX2_neighbour_0 : decode cX2_neighbour 0 = .ok (.iload_n 0, 1) := by decide +kernel
theorem dX2_neighbour_1 : decode cX2_neighbour 1 = .ok (.bipush 8, 2) := by decide +kernel
theorem dX2_neighbour_3 : decode cX2_neighbour 3 = .ok (.irem, 1) := by decide +kernel
theorem dX2_neighbour_4 : decode cX2_neighbour 4 = .ok (.getstatic 104, 3) := by decide +kernel
theorem dX2_neighbour_7 : decode cX2_neighbour 7 = .ok (.iload_n 1, 1) := by decide +kernel
theorem dX2_neighbour_8 : decode cX2_neighbour 8 = .ok (.iaload, 1) := by decide +kernel
theorem dX2_neighbour_9 : decode cX2_neighbour 9 = .ok (.iadd, 1) := by decide +kernel
theorem dX2_neighbour_10 : decode cX2_neighbour 10 = .ok (.istore_n 2, 1) := by decide +kernel
theorem dX2_neighbour_11 : decode cX2_neighbour 11 = .ok (.iload_n 0, 1) := by decide +kernel
theorem dX2_neighbour_12 : decode cX2_neighbour 12 = .ok (.bipush 8, 2) := by decide +kernel
theorem dX2_neighbour_14 : decode cX2_neighbour 14 = .ok (.idiv, 1) := by decide +kernel
theorem dX2_neighbour_15 : decode cX2_neighbour 15 = .ok (.getstatic 113, 3) := by decide +kernel
theorem dX2_neighbour_18 : decode cX2_neighbour 18 = .ok (.iload_n 1, 1) := by decide +kernel
theorem dX2_neighbour_19 : decode cX2_neighbour 19 = .ok (.iaload, 1) := by decide +kernel
theorem dX2_neighbour_20 : decode cX2_neighbour 20 = .ok (.iadd, 1) := by decide +kernel
theorem dX2_neighbour_21 : decode cX2_neighbour 21 = .ok (.istore_n 3, 1) := by decide +kernel
theorem dX2_neighbour_22 : decode cX2_neighbour 22 = .ok (.iload_n 2, 1) := by decide +kernel
theorem dX2_neighbour_23 : decode cX2_neighbour 23 = .ok (.ifCond .lt 19, 3) := by decide +kernel
theorem dX2_neighbour_26 : decode cX2_neighbour 26 = .ok (.iload_n 2, 1) := by decide +kernel
theorem dX2_neighbour_27 : decode cX2_neighbour 27 = .ok (.bipush 8, 2) := by decide +kernel
theorem dX2_neighbour_29 : decode cX2_neighbour 29 = .ok (.if_icmp .ge 13, 3) := by decide +kernel
theorem dX2_neighbour_32 : decode cX2_neighbour 32 = .ok (.iload_n 3, 1) := by decide +kernel
theorem dX2_neighbour_33 : decode cX2_neighbour 33 = .ok (.ifCond .lt 9, 3) := by decide +kernel
theorem dX2_neighbour_36 : decode cX2_neighbour 36 = .ok (.iload_n 3, 1) := by decide +kernel
theorem dX2_neighbour_37 : decode cX2_neighbour 37 = .ok (.bipush 6, 2) := by decide +kernel
theorem dX2_neighbour_39 : decode cX2_neighbour 39 = .ok (.if_icmp .lt 6, 3) := by decide +kernel
theorem dX2_neighbour_42 : decode cX2_neighbour 42 = .ok (.bipush (-9), 2) := by decide +kernel
theorem dX2_neighbour_44 : decode cX2_neighbour 44 = .ok (.ireturn, 1) := by decide +kernel
theorem dX2_neighbour_45 : decode cX2_neighbour 45 = .ok (.bipush 8, 2) := by decide +kernel
theorem dX2_neighbour_47 : decode cX2_neighbour 47 = .ok (.iload_n 3, 1) := by decide +kernel
theorem dX2_neighbour_48 : decode cX2_neighbour 48 = .ok (.imul, 1) := by decide +kernel
theorem dX2_neighbour_49 : decode cX2_neighbour 49 = .ok (.iload_n 2, 1) := by decide +kernel
theorem dX2_neighbour_50 : decode cX2_neighbour 50 = .ok (.iadd, 1) := by decide +kernel
theorem dX2_neighbour_51 : decode cX2_neighbour 51 = .ok (.ireturn, 1) := by decide +kernel
theorem dX2_seepage_0 : decode cX2_seepage 0 = .ok (.aload_n 0, 1) := by decide +kernel
theorem dX2_seepage_1 : decode cX2_seepage 1 = .ok (.invokevirtual 83, 3) := by decide +kernel
theorem dX2_seepage_4 : decode cX2_seepage 4 = .ok (.aload_n 0, 1) := by decide +kernel
theorem dX2_seepage_5 : decode cX2_seepage 5 = .ok (.bipush 7, 2) := by decide +kernel
theorem dX2_seepage_7 : decode cX2_seepage 7 = .ok (.invokevirtual 101, 3) := by decide +kernel
theorem dX2_seepage_10 : decode cX2_seepage 10 = .ok (.sipush 1000, 3) := by decide +kernel
theorem dX2_seepage_13 : decode cX2_seepage 13 = .ok (.idiv, 1) := by decide +kernel
theorem dX2_seepage_14 : decode cX2_seepage 14 = .ok (.ireturn, 1) := by decide +kernel
theorem dX2_passDay_0 : decode cX2_passDay 0 = .ok (.iconst 0, 1) := by decide +kernel
theorem dX2_passDay_1 : decode cX2_passDay 1 = .ok (.istore_n 2, 1) := by decide +kernel
theorem dX2_passDay_2 : decode cX2_passDay 2 = .ok (.iconst 0, 1) := by decide +kernel
theorem dX2_passDay_3 : decode cX2_passDay 3 = .ok (.istore_n 3, 1) := by decide +kernel
theorem dX2_passDay_4 : decode cX2_passDay 4 = .ok (.iload_n 3, 1) := by decide +kernel
theorem dX2_passDay_5 : decode cX2_passDay 5 = .ok (.bipush 48, 2) := by decide +kernel
theorem dX2_passDay_7 : decode cX2_passDay 7 = .ok (.if_icmp .ge 29, 3) := by decide +kernel
theorem dX2_passDay_10 : decode cX2_passDay 10 = .ok (.aload_n 0, 1) := by decide +kernel
theorem dX2_passDay_11 : decode cX2_passDay 11 = .ok (.getfield 34, 3) := by decide +kernel
theorem dX2_passDay_14 : decode cX2_passDay 14 = .ok (.iload_n 3, 1) := by decide +kernel
theorem dX2_passDay_15 : decode cX2_passDay 15 = .ok (.aload_n 0, 1) := by decide +kernel
theorem dX2_passDay_16 : decode cX2_passDay 16 = .ok (.iload_n 3, 1) := by decide +kernel
theorem dX2_passDay_17 : decode cX2_passDay 17 = .ok (.iload_n 1, 1) := by decide +kernel
theorem dX2_passDay_18 : decode cX2_passDay 18 = .ok (.invokevirtual 116, 3) := by decide +kernel
theorem dX2_passDay_21 : decode cX2_passDay 21 = .ok (.ifCond .eq 7, 3) := by decide +kernel
theorem dX2_passDay_24 : decode cX2_passDay 24 = .ok (.iconst 1, 1) := by decide +kernel
theorem dX2_passDay_25 : decode cX2_passDay 25 = .ok (.goto 4, 3) := by decide +kernel
theorem dX2_passDay_28 : decode cX2_passDay 28 = .ok (.iconst 0, 1) := by decide +kernel
theorem dX2_passDay_29 : decode cX2_passDay 29 = .ok (.iastore, 1) := by decide +kernel
theorem dX2_passDay_30 : decode cX2_passDay 30 = .ok (.iinc 3 1, 3) := by decide +kernel
theorem dX2_passDay_33 : decode cX2_passDay 33 = .ok (.goto (-29), 3) := by decide +kernel
theorem dX2_passDay_36 : decode cX2_passDay 36 = .ok (.iconst 0, 1) := by decide +kernel
theorem dX2_passDay_37 : decode cX2_passDay 37 = .ok (.istore_n 3, 1) := by decide +kernel
theorem dX2_passDay_38 : decode cX2_passDay 38 = .ok (.iload_n 3, 1) := by decide +kernel
theorem dX2_passDay_39 : decode cX2_passDay 39 = .ok (.bipush 48, 2) := by decide +kernel
theorem dX2_passDay_41 : decode cX2_passDay 41 = .ok (.if_icmp .ge 31, 3) := by decide +kernel
theorem dX2_passDay_44 : decode cX2_passDay 44 = .ok (.aload_n 0, 1) := by decide +kernel
theorem dX2_passDay_45 : decode cX2_passDay 45 = .ok (.getfield 34, 3) := by decide +kernel
theorem dX2_passDay_48 : decode cX2_passDay 48 = .ok (.iload_n 3, 1) := by decide +kernel
theorem dX2_passDay_49 : decode cX2_passDay 49 = .ok (.iaload, 1) := by decide +kernel
theorem dX2_passDay_50 : decode cX2_passDay 50 = .ok (.ifCond .ne 6, 3) := by decide +kernel
theorem dX2_passDay_53 : decode cX2_passDay 53 = .ok (.goto 13, 3) := by decide +kernel
theorem dX2_passDay_56 : decode cX2_passDay 56 = .ok (.aload_n 0, 1) := by decide +kernel
theorem dX2_passDay_57 : decode cX2_passDay 57 = .ok (.getfield 18, 3) := by decide +kernel
theorem dX2_passDay_60 : decode cX2_passDay 60 = .ok (.iload_n 3, 1) := by decide +kernel
theorem dX2_passDay_61 : decode cX2_passDay 61 = .ok (.iconst 1, 1) := by decide +kernel
theorem dX2_passDay_62 : decode cX2_passDay 62 = .ok (.iastore, 1) := by decide +kernel
theorem dX2_passDay_63 : decode cX2_passDay 63 = .ok (.iinc 2 1, 3) := by decide +kernel
theorem dX2_passDay_66 : decode cX2_passDay 66 = .ok (.iinc 3 1, 3) := by decide +kernel
theorem dX2_passDay_69 : decode cX2_passDay 69 = .ok (.goto (-31), 3) := by decide +kernel
theorem dX2_passDay_72 : decode cX2_passDay 72 = .ok (.iload_n 2, 1) := by decide +kernel
theorem dX2_passDay_73 : decode cX2_passDay 73 = .ok (.ireturn, 1) := by decide +kernel
theorem dX2_isLoose_0 : decode cX2_isLoose 0 = .ok (.aload_n 0, 1) := by decide +kernel
theorem dX2_isLoose_1 : decode cX2_isLoose 1 = .ok (.iload_n 1, 1) := by decide +kernel
theorem dX2_isLoose_2 : decode cX2_isLoose 2 = .ok (.invokevirtual 65, 3) := by decide +kernel
theorem dX2_isLoose_5 : decode cX2_isLoose 5 = .ok (.ifCond .eq 32, 3) := by decide +kernel
theorem dX2_isLoose_8 : decode cX2_isLoose 8 = .ok (.aload_n 0, 1) := by decide +kernel
theorem dX2_isLoose_9 : decode cX2_isLoose 9 = .ok (.iload_n 1, 1) := by decide +kernel
theorem dX2_isLoose_10 : decode cX2_isLoose 10 = .ok (.invokevirtual 68, 3) := by decide +kernel
theorem dX2_isLoose_13 : decode cX2_isLoose 13 = .ok (.bipush 20, 2) := by decide +kernel
theorem dX2_isLoose_15 : decode cX2_isLoose 15 = .ok (.aload_n 0, 1) := by decide +kernel
theorem dX2_isLoose_16 : decode cX2_isLoose 16 = .ok (.iload_n 1, 1) := by decide +kernel
theorem dX2_isLoose_17 : decode cX2_isLoose 17 = .ok (.invokevirtual 120, 3) := by decide +kernel
theorem dX2_isLoose_20 : decode cX2_isLoose 20 = .ok (.imul, 1) := by decide +kernel
theorem dX2_isLoose_21 : decode cX2_isLoose 21 = .ok (.if_icmp .lt 16, 3) := by decide +kernel
theorem dX2_isLoose_24 : decode cX2_isLoose 24 = .ok (.aload_n 0, 1) := by decide +kernel
theorem dX2_isLoose_25 : decode cX2_isLoose 25 = .ok (.iload_n 1, 1) := by decide +kernel
theorem dX2_isLoose_26 : decode cX2_isLoose 26 = .ok (.iload_n 2, 1) := by decide +kernel
theorem dX2_isLoose_27 : decode cX2_isLoose 27 = .ok (.invokevirtual 123, 3) := by decide +kernel
theorem dX2_isLoose_30 : decode cX2_isLoose 30 = .ok (.ifCond .eq 7, 3) := by decide +kernel
theorem dX2_isLoose_33 : decode cX2_isLoose 33 = .ok (.iconst 1, 1) := by decide +kernel
theorem dX2_isLoose_34 : decode cX2_isLoose 34 = .ok (.goto 4, 3) := by decide +kernel
theorem dX2_isLoose_37 : decode cX2_isLoose 37 = .ok (.iconst 0, 1) := by decide +kernel
theorem dX2_isLoose_38 : decode cX2_isLoose 38 = .ok (.ireturn, 1) := by decide +kernel
theorem dX2_isOpen_0 : decode cX2_isOpen 0 = .ok (.iload_n 1, 1) := by decide +kernel
theorem dX2_isOpen_1 : decode cX2_isOpen 1 = .ok (.bipush 8, 2) := by decide +kernel
theorem dX2_isOpen_3 : decode cX2_isOpen 3 = .ok (.irem, 1) := by decide +kernel
theorem dX2_isOpen_4 : decode cX2_isOpen 4 = .ok (.bipush 7, 2) := by decide +kernel
theorem dX2_isOpen_6 : decode cX2_isOpen 6 = .ok (.if_icmp .eq 13, 3) := by decide +kernel
theorem dX2_isOpen_9 : decode cX2_isOpen 9 = .ok (.aload_n 0, 1) := by decide +kernel
theorem dX2_isOpen_10 : decode cX2_isOpen 10 = .ok (.iload_n 1, 1) := by decide +kernel
theorem dX2_isOpen_11 : decode cX2_isOpen 11 = .ok (.iconst 1, 1) := by decide +kernel
theorem dX2_isOpen_12 : decode cX2_isOpen 12 = .ok (.iadd, 1) := by decide +kernel
theorem dX2_isOpen_13 : decode cX2_isOpen 13 = .ok (.invokevirtual 55, 3) := by decide +kernel
theorem dX2_isOpen_16 : decode cX2_isOpen 16 = .ok (.ifCond .eq 5, 3) := by decide +kernel
theorem dX2_isOpen_19 : decode cX2_isOpen 19 = .ok (.iconst 1, 1) := by decide +kernel
theorem dX2_isOpen_20 : decode cX2_isOpen 20 = .ok (.ireturn, 1) := by decide +kernel
theorem dX2_isOpen_21 : decode cX2_isOpen 21 = .ok (.iload_n 2, 1) := by decide +kernel
theorem dX2_isOpen_22 : decode cX2_isOpen 22 = .ok (.aload_n 0, 1) := by decide +kernel
theorem dX2_isOpen_23 : decode cX2_isOpen 23 = .ok (.iload_n 1, 1) := by decide +kernel
theorem dX2_isOpen_24 : decode cX2_isOpen 24 = .ok (.invokevirtual 126, 3) := by decide +kernel
theorem dX2_isOpen_27 : decode cX2_isOpen 27 = .ok (.imul, 1) := by decide +kernel
theorem dX2_isOpen_28 : decode cX2_isOpen 28 = .ok (.istore_n 3, 1) := by decide +kernel
theorem dX2_isOpen_29 : decode cX2_isOpen 29 = .ok (.iconst 0, 1) := by decide +kernel
theorem dX2_isOpen_30 : decode cX2_isOpen 30 = .ok (.istore 4, 2) := by decide +kernel
theorem dX2_isOpen_32 : decode cX2_isOpen 32 = .ok (.iload 4, 2) := by decide +kernel
theorem dX2_isOpen_34 : decode cX2_isOpen 34 = .ok (.getstatic 104, 3) := by decide +kernel
theorem dX2_isOpen_37 : decode cX2_isOpen 37 = .ok (.arraylength, 1) := by decide +kernel
theorem dX2_isOpen_38 : decode cX2_isOpen 38 = .ok (.if_icmp .ge 61, 3) := by decide +kernel
theorem dX2_isOpen_41 : decode cX2_isOpen 41 = .ok (.iload_n 1, 1) := by decide +kernel
theorem dX2_isOpen_42 : decode cX2_isOpen 42 = .ok (.iload 4, 2) := by decide +kernel
theorem dX2_isOpen_44 : decode cX2_isOpen 44 = .ok (.invokestatic 107, 3) := by decide +kernel
theorem dX2_isOpen_47 : decode cX2_isOpen 47 = .ok (.istore 5, 2) := by decide +kernel
theorem dX2_isOpen_49 : decode cX2_isOpen 49 = .ok (.iload 5, 2) := by decide +kernel
theorem dX2_isOpen_51 : decode cX2_isOpen 51 = .ok (.bipush (-9), 2) := by decide +kernel
theorem dX2_isOpen_53 : decode cX2_isOpen 53 = .ok (.if_icmp .ne 6, 3) := by decide +kernel
theorem dX2_isOpen_56 : decode cX2_isOpen 56 = .ok (.goto 37, 3) := by decide +kernel
theorem dX2_isOpen_59 : decode cX2_isOpen 59 = .ok (.aload_n 0, 1) := by decide +kernel
theorem dX2_isOpen_60 : decode cX2_isOpen 60 = .ok (.getfield 18, 3) := by decide +kernel
theorem dX2_isOpen_63 : decode cX2_isOpen 63 = .ok (.iload 5, 2) := by decide +kernel
theorem dX2_isOpen_65 : decode cX2_isOpen 65 = .ok (.iaload, 1) := by decide +kernel
theorem dX2_isOpen_66 : decode cX2_isOpen 66 = .ok (.iconst 1, 1) := by decide +kernel
theorem dX2_isOpen_67 : decode cX2_isOpen 67 = .ok (.if_icmp .ne 5, 3) := by decide +kernel
theorem dX2_isOpen_70 : decode cX2_isOpen 70 = .ok (.iconst 1, 1) := by decide +kernel
theorem dX2_isOpen_71 : decode cX2_isOpen 71 = .ok (.ireturn, 1) := by decide +kernel
theorem dX2_isOpen_72 : decode cX2_isOpen 72 = .ok (.aload_n 0, 1) := by decide +kernel
theorem dX2_isOpen_73 : decode cX2_isOpen 73 = .ok (.iload 5, 2) := by decide +kernel
theorem dX2_isOpen_75 : decode cX2_isOpen 75 = .ok (.invokevirtual 65, 3) := by decide +kernel
theorem dX2_isOpen_78 : decode cX2_isOpen 78 = .ok (.ifCond .eq 15, 3) := by decide +kernel
theorem dX2_isOpen_81 : decode cX2_isOpen 81 = .ok (.aload_n 0, 1) := by decide +kernel
theorem dX2_isOpen_82 : decode cX2_isOpen 82 = .ok (.iload 5, 2) := by decide +kernel
theorem dX2_isOpen_84 : decode cX2_isOpen 84 = .ok (.invokevirtual 126, 3) := by decide +kernel
theorem dX2_isOpen_87 : decode cX2_isOpen 87 = .ok (.iload_n 3, 1) := by decide +kernel
theorem dX2_isOpen_88 : decode cX2_isOpen 88 = .ok (.if_icmp .le 5, 3) := by decide +kernel
theorem dX2_isOpen_91 : decode cX2_isOpen 91 = .ok (.iconst 1, 1) := by decide +kernel
theorem dX2_isOpen_92 : decode cX2_isOpen 92 = .ok (.ireturn, 1) := by decide +kernel
theorem dX2_isOpen_93 : decode cX2_isOpen 93 = .ok (.iinc 4 1, 3) := by decide +kernel
theorem dX2_isOpen_96 : decode cX2_isOpen 96 = .ok (.goto (-64), 3) := by decide +kernel
theorem dX2_isOpen_99 : decode cX2_isOpen 99 = .ok (.iconst 0, 1) := by decide +kernel
theorem dX2_isOpen_100 : decode cX2_isOpen 100 = .ok (.ireturn, 1) := by decide +kernel
theorem dX2_daysToBreach_0 : decode cX2_daysToBreach 0 = .ok (.iconst 1, 1) := by decide +kernel
theorem dX2_daysToBreach_1 : decode cX2_daysToBreach 1 = .ok (.istore_n 2, 1) := by decide +kernel
theorem dX2_daysToBreach_2 : decode cX2_daysToBreach 2 = .ok (.iload_n 2, 1) := by decide +kernel
theorem dX2_daysToBreach_3 : decode cX2_daysToBreach 3 = .ok (.bipush 48, 2) := by decide +kernel
theorem dX2_daysToBreach_5 : decode cX2_daysToBreach 5 = .ok (.if_icmp .gt 35, 3) := by decide +kernel
theorem dX2_daysToBreach_8 : decode cX2_daysToBreach 8 = .ok (.aload_n 0, 1) := by decide +kernel
theorem dX2_daysToBreach_9 : decode cX2_daysToBreach 9 = .ok (.invokevirtual 129, 3) := by decide +kernel
theorem dX2_daysToBreach_12 : decode cX2_daysToBreach 12 = .ok (.istore_n 3, 1) := by decide +kernel
theorem dX2_daysToBreach_13 : decode cX2_daysToBreach 13 = .ok (.aload_n 0, 1) := by decide +kernel
theorem dX2_daysToBreach_14 : decode cX2_daysToBreach 14 = .ok (.iload_n 1, 1) := by decide +kernel
theorem dX2_daysToBreach_15 : decode cX2_daysToBreach 15 = .ok (.invokevirtual 132, 3) := by decide +kernel
theorem dX2_daysToBreach_18 : decode cX2_daysToBreach 18 = .ok (.ifCond .ne 6, 3) := by decide +kernel
theorem dX2_daysToBreach_21 : decode cX2_daysToBreach 21 = .ok (.bipush (-9), 2) := by decide +kernel
theorem dX2_daysToBreach_23 : decode cX2_daysToBreach 23 = .ok (.ireturn, 1) := by decide +kernel
theorem dX2_daysToBreach_24 : decode cX2_daysToBreach 24 = .ok (.aload_n 0, 1) := by decide +kernel
theorem dX2_daysToBreach_25 : decode cX2_daysToBreach 25 = .ok (.invokevirtual 129, 3) := by decide +kernel
theorem dX2_daysToBreach_28 : decode cX2_daysToBreach 28 = .ok (.iload_n 3, 1) := by decide +kernel
theorem dX2_daysToBreach_29 : decode cX2_daysToBreach 29 = .ok (.if_icmp .ge 5, 3) := by decide +kernel
theorem dX2_daysToBreach_32 : decode cX2_daysToBreach 32 = .ok (.iload_n 2, 1) := by decide +kernel
theorem dX2_daysToBreach_33 : decode cX2_daysToBreach 33 = .ok (.ireturn, 1) := by decide +kernel
theorem dX2_daysToBreach_34 : decode cX2_daysToBreach 34 = .ok (.iinc 2 1, 3) := by decide +kernel
theorem dX2_daysToBreach_37 : decode cX2_daysToBreach 37 = .ok (.goto (-35), 3) := by decide +kernel
theorem dX2_daysToBreach_40 : decode cX2_daysToBreach 40 = .ok (.bipush (-9), 2) := by decide +kernel
theorem dX2_daysToBreach_42 : decode cX2_daysToBreach 42 = .ok (.ireturn, 1) := by decide +kernel
theorem dX2_earthAtFront_0 : decode cX2_earthAtFront 0 = .ok (.iconst 0, 1) := by decide +kernel
theorem dX2_earthAtFront_1 : decode cX2_earthAtFront 1 = .ok (.istore_n 1, 1) := by decide +kernel
theorem dX2_earthAtFront_2 : decode cX2_earthAtFront 2 = .ok (.iconst 0, 1) := by decide +kernel
theorem dX2_earthAtFront_3 : decode cX2_earthAtFront 3 = .ok (.istore_n 2, 1) := by decide +kernel
theorem dX2_earthAtFront_4 : decode cX2_earthAtFront 4 = .ok (.iload_n 2, 1) := by decide +kernel
theorem dX2_earthAtFront_5 : decode cX2_earthAtFront 5 = .ok (.bipush 48, 2) := by decide +kernel
theorem dX2_earthAtFront_7 : decode cX2_earthAtFront 7 = .ok (.if_icmp .ge 20, 3) := by decide +kernel
theorem dX2_earthAtFront_10 : decode cX2_earthAtFront 10 = .ok (.aload_n 0, 1) := by decide +kernel
theorem dX2_earthAtFront_11 : decode cX2_earthAtFront 11 = .ok (.iload_n 2, 1) := by decide +kernel
theorem dX2_earthAtFront_12 : decode cX2_earthAtFront 12 = .ok (.invokevirtual 65, 3) := by decide +kernel
theorem dX2_earthAtFront_15 : decode cX2_earthAtFront 15 = .ok (.ifCond .eq 6, 3) := by decide +kernel
theorem dX2_earthAtFront_18 : decode cX2_earthAtFront 18 = .ok (.iinc 1 1, 3) := by decide +kernel
theorem dX2_earthAtFront_21 : decode cX2_earthAtFront 21 = .ok (.iinc 2 8, 3) := by decide +kernel
theorem dX2_earthAtFront_24 : decode cX2_earthAtFront 24 = .ok (.goto (-20), 3) := by decide +kernel
theorem dX2_earthAtFront_27 : decode cX2_earthAtFront 27 = .ok (.iload_n 1, 1) := by decide +kernel
theorem dX2_earthAtFront_28 : decode cX2_earthAtFront 28 = .ok (.ireturn, 1) := by decide +kernel
