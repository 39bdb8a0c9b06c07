theorem dX0_init_0 : decode cX0_init 0 = .ok (.aload_n 0, 1) := by decide +kernel
theorem dX0_init_1 : decode cX0_init 1 = .ok (.invokespecial 3, 3) := by decide +kernel
theorem dX0_init_4 : decode cX0_init 4 = .ok (.aload_n 0, 1) := by decide +kernel
theorem dX0_init_5 : decode cX0_init 5 = .ok (.sipush 400, 3) := by decide +kernel
theorem dX0_init_8 : decode cX0_init 8 = .ok (.newarray .int, 2) := by decide +kernel
theorem dX0_init_10 : decode cX0_init 10 = .ok (.putfield 11, 3) := by decide +kernel
theorem dX0_init_13 : decode cX0_init 13 = .ok (.aload_n 0, 1) := by decide +kernel
theorem dX0_init_14 : decode cX0_init 14 = .ok (.iconst 0, 1) := by decide +kernel
theorem dX0_init_15 : decode cX0_init 15 = .ok (.putfield 15, 3) := by decide +kernel
theorem dX0_init_18 : decode cX0_init 18 = .ok (.aload_n 0, 1) := by decide +kernel
theorem dX0_init_19 : decode cX0_init 19 = .ok (.iconst 0, 1) := by decide +kernel
theorem dX0_init_20 : decode cX0_init 20 = .ok (.putfield 19, 3) := by decide +kernel
theorem dX0_init_23 : decode cX0_init 23 = .ok (.aload_n 0, 1) := by decide +kernel
theorem dX0_init_24 : decode cX0_init 24 = .ok (.iconst 0, 1) := by decide +kernel
theorem dX0_init_25 : decode cX0_init 25 = .ok (.putfield 22, 3) := by decide +kernel
theorem dX0_init_28 : decode cX0_init 28 = .ok (.aload_n 0, 1) := by decide +kernel
theorem dX0_init_29 : decode cX0_init 29 = .ok (.iconst 0, 1) := by decide +kernel
theorem dX0_init_30 : decode cX0_init 30 = .ok (.putfield 25, 3) := by decide +kernel
theorem dX0_init_33 : decode cX0_init 33 = .ok (.aload_n 0, 1) := by decide +kernel
theorem dX0_init_34 : decode cX0_init 34 = .ok (.iconst 0, 1) := by decide +kernel
theorem dX0_init_35 : decode cX0_init 35 = .ok (.putfield 28, 3) := by decide +kernel
theorem dX0_init_38 : decode cX0_init 38 = .ok (.return_, 1) := by decide +kernel
theorem dX0_append_0 : decode cX0_append 0 = .ok (.iload_n 3, 1) := by decide +kernel
theorem dX0_append_1 : decode cX0_append 1 = .ok (.sipush 400, 3) := by decide +kernel
theorem dX0_append_4 : decode cX0_append 4 = .ok (.aload_n 0, 1) := by decide +kernel
theorem dX0_append_5 : decode cX0_append 5 = .ok (.getfield 15, 3) := by decide +kernel
theorem dX0_append_8 : decode cX0_append 8 = .ok (.isub, 1) := by decide +kernel
theorem dX0_append_9 : decode cX0_append 9 = .ok (.if_icmp .le 5, 3) := by decide +kernel
theorem dX0_append_12 : decode cX0_append 12 = .ok (.iconst 0, 1) := by decide +kernel
theorem dX0_append_13 : decode cX0_append 13 = .ok (.ireturn, 1) := by decide +kernel
theorem dX0_append_14 : decode cX0_append 14 = .ok (.iload_n 3, 1) := by decide +kernel
theorem dX0_append_15 : decode cX0_append 15 = .ok (.iconst 1, 1) := by decide +kernel
theorem dX0_append_16 : decode cX0_append 16 = .ok (.isub, 1) := by decide +kernel
theorem dX0_append_17 : decode cX0_append 17 = .ok (.istore 4, 2) := by decide +kernel
theorem dX0_append_19 : decode cX0_append 19 = .ok (.iload 4, 2) := by decide +kernel
theorem dX0_append_21 : decode cX0_append 21 = .ok (.ifCond .lt 40, 3) := by decide +kernel
theorem dX0_append_24 : decode cX0_append 24 = .ok (.aload_n 0, 1) := by decide +kernel
theorem dX0_append_25 : decode cX0_append 25 = .ok (.getfield 11, 3) := by decide +kernel
theorem dX0_append_28 : decode cX0_append 28 = .ok (.aload_n 0, 1) := by decide +kernel
theorem dX0_append_29 : decode cX0_append 29 = .ok (.getfield 15, 3) := by decide +kernel
theorem dX0_append_32 : decode cX0_append 32 = .ok (.lload_n 1, 1) := by decide +kernel
theorem dX0_append_33 : decode cX0_append 33 = .ok (.bipush 8, 2) := by decide +kernel
theorem dX0_append_35 : decode cX0_append 35 = .ok (.iload 4, 2) := by decide +kernel
theorem dX0_append_37 : decode cX0_append 37 = .ok (.imul, 1) := by decide +kernel
theorem dX0_append_38 : decode cX0_append 38 = .ok (.lushr, 1) := by decide +kernel
theorem dX0_append_39 : decode cX0_append 39 = .ok (.l2i, 1) := by decide +kernel
theorem dX0_append_40 : decode cX0_append 40 = .ok (.sipush 255, 3) := by decide +kernel
theorem dX0_append_43 : decode cX0_append 43 = .ok (.iand, 1) := by decide +kernel
theorem dX0_append_44 : decode cX0_append 44 = .ok (.iastore, 1) := by decide +kernel
theorem dX0_append_45 : decode cX0_append 45 = .ok (.aload_n 0, 1) := by decide +kernel
theorem dX0_append_46 : decode cX0_append 46 = .ok (.dup, 1) := by decide +kernel
theorem dX0_append_47 : decode cX0_append 47 = .ok (.getfield 15, 3) := by decide +kernel
theorem dX0_append_50 : decode cX0_append 50 = .ok (.iconst 1, 1) := by decide +kernel
theorem dX0_append_51 : decode cX0_append 51 = .ok (.iadd, 1) := by decide +kernel
theorem dX0_append_52 : decode cX0_append 52 = .ok (.putfield 15, 3) := by decide +kernel
theorem dX0_append_55 : decode cX0_append 55 = .ok (.iinc 4 (-1), 3) := by decide +kernel
theorem dX0_append_58 : decode cX0_append 58 = .ok (.goto (-39), 3) := by decide +kernel
theorem dX0_append_61 : decode cX0_append 61 = .ok (.iconst 1, 1) := by decide +kernel
theorem dX0_append_62 : decode cX0_append 62 = .ok (.ireturn, 1) := by decide +kernel
theorem dX0_drop_0 : decode cX0_drop 0 = .ok (.aload_n 0, 1) := by decide +kernel
theorem dX0_drop_1 : decode cX0_drop 1 = .ok (.getfield 15, 3) := by decide +kernel
theorem dX0_drop_4 : decode cX0_drop 4 = .ok (.istore_n 1, 1) := by decide +kernel
theorem dX0_drop_5 : decode cX0_drop 5 = .ok (.aload_n 0, 1) := by decide +kernel
theorem dX0_drop_6 : decode cX0_drop 6 = .ok (.iconst 0, 1) := by decide +kernel
theorem dX0_drop_7 : decode cX0_drop 7 = .ok (.putfield 15, 3) := by decide +kernel
theorem dX0_drop_10 : decode cX0_drop 10 = .ok (.iload_n 1, 1) := by decide +kernel
theorem dX0_drop_11 : decode cX0_drop 11 = .ok (.ireturn, 1) := by decide +kernel
theorem dX0_readInto_0 : decode cX0_readInto 0 = .ok (.aload_n 1, 1) := by decide +kernel
theorem dX0_readInto_1 : decode cX0_readInto 1 = .ok (.invokevirtual 31, 3) := by decide +kernel
theorem dX0_readInto_4 : decode cX0_readInto 4 = .ok (.aload_n 0, 1) := by decide +kernel
theorem dX0_readInto_5 : decode cX0_readInto 5 = .ok (.iconst 0, 1) := by decide +kernel
theorem dX0_readInto_6 : decode cX0_readInto 6 = .ok (.putfield 25, 3) := by decide +kernel
theorem dX0_readInto_9 : decode cX0_readInto 9 = .ok (.iconst 0, 1) := by decide +kernel
theorem dX0_readInto_10 : decode cX0_readInto 10 = .ok (.istore_n 2, 1) := by decide +kernel
theorem dX0_readInto_11 : decode cX0_readInto 11 = .ok (.iload_n 2, 1) := by decide +kernel
theorem dX0_readInto_12 : decode cX0_readInto 12 = .ok (.bipush 20, 2) := by decide +kernel
theorem dX0_readInto_14 : decode cX0_readInto 14 = .ok (.if_icmp .ge 71, 3) := by decide +kernel
theorem dX0_readInto_17 : decode cX0_readInto 17 = .ok (.aload_n 0, 1) := by decide +kernel
theorem dX0_readInto_18 : decode cX0_readInto 18 = .ok (.invokevirtual 36, 3) := by decide +kernel
theorem dX0_readInto_21 : decode cX0_readInto 21 = .ok (.aload_n 0, 1) := by decide +kernel
theorem dX0_readInto_22 : decode cX0_readInto 22 = .ok (.getfield 19, 3) := by decide +kernel
theorem dX0_readInto_25 : decode cX0_readInto 25 = .ok (.ifCond .ne 5, 3) := by decide +kernel
theorem dX0_readInto_28 : decode cX0_readInto 28 = .ok (.iconst (-1), 1) := by decide +kernel
theorem dX0_readInto_29 : decode cX0_readInto 29 = .ok (.ireturn, 1) := by decide +kernel
theorem dX0_readInto_30 : decode cX0_readInto 30 = .ok (.aload_n 0, 1) := by decide +kernel
theorem dX0_readInto_31 : decode cX0_readInto 31 = .ok (.ldc 39, 2) := by decide +kernel
theorem dX0_readInto_33 : decode cX0_readInto 33 = .ok (.invokevirtual 41, 3) := by decide +kernel
theorem dX0_readInto_36 : decode cX0_readInto 36 = .ok (.ifCond .eq 11, 3) := by decide +kernel
theorem dX0_readInto_39 : decode cX0_readInto 39 = .ok (.aload_n 0, 1) := by decide +kernel
theorem dX0_readInto_40 : decode cX0_readInto 40 = .ok (.aload_n 1, 1) := by decide +kernel
theorem dX0_readInto_41 : decode cX0_readInto 41 = .ok (.invokevirtual 45, 3) := by decide +kernel
theorem dX0_readInto_44 : decode cX0_readInto 44 = .ok (.goto 25, 3) := by decide +kernel
theorem dX0_readInto_47 : decode cX0_readInto 47 = .ok (.aload_n 0, 1) := by decide +kernel
theorem dX0_readInto_48 : decode cX0_readInto 48 = .ok (.ldc 49, 2) := by decide +kernel
theorem dX0_readInto_50 : decode cX0_readInto 50 = .ok (.invokevirtual 41, 3) := by decide +kernel
theorem dX0_readInto_53 : decode cX0_readInto 53 = .ok (.ifCond .eq 15, 3) := by decide +kernel
theorem dX0_readInto_56 : decode cX0_readInto 56 = .ok (.aload_n 0, 1) := by decide +kernel
theorem dX0_readInto_57 : decode cX0_readInto 57 = .ok (.aload_n 1, 1) := by decide +kernel
theorem dX0_readInto_58 : decode cX0_readInto 58 = .ok (.invokevirtual 51, 3) := by decide +kernel
theorem dX0_readInto_61 : decode cX0_readInto 61 = .ok (.ifCond .eq 7, 3) := by decide +kernel
theorem dX0_readInto_64 : decode cX0_readInto 64 = .ok (.iconst 1, 1) := by decide +kernel
theorem dX0_readInto_65 : decode cX0_readInto 65 = .ok (.goto 4, 3) := by decide +kernel
theorem dX0_readInto_68 : decode cX0_readInto 68 = .ok (.iconst 0, 1) := by decide +kernel
theorem dX0_readInto_69 : decode cX0_readInto 69 = .ok (.istore_n 3, 1) := by decide +kernel
theorem dX0_readInto_70 : decode cX0_readInto 70 = .ok (.iload_n 3, 1) := by decide +kernel
theorem dX0_readInto_71 : decode cX0_readInto 71 = .ok (.ifCond .ne 8, 3) := by decide +kernel
theorem dX0_readInto_74 : decode cX0_readInto 74 = .ok (.aload_n 0, 1) := by decide +kernel
theorem dX0_readInto_75 : decode cX0_readInto 75 = .ok (.getfield 22, 3) := by decide +kernel
theorem dX0_readInto_78 : decode cX0_readInto 78 = .ok (.ireturn, 1) := by decide +kernel
theorem dX0_readInto_79 : decode cX0_readInto 79 = .ok (.iinc 2 1, 3) := by decide +kernel
theorem dX0_readInto_82 : decode cX0_readInto 82 = .ok (.goto (-71), 3) := by decide +kernel
theorem dX0_readInto_85 : decode cX0_readInto 85 = .ok (.aload_n 0, 1) := by decide +kernel
theorem dX0_readInto_86 : decode cX0_readInto 86 = .ok (.invokevirtual 36, 3) := by decide +kernel
theorem dX0_readInto_89 : decode cX0_readInto 89 = .ok (.aload_n 0, 1) := by decide +kernel
theorem dX0_readInto_90 : decode cX0_readInto 90 = .ok (.getfield 19, 3) := by decide +kernel
theorem dX0_readInto_93 : decode cX0_readInto 93 = .ok (.ifCond .ne 7, 3) := by decide +kernel
theorem dX0_readInto_96 : decode cX0_readInto 96 = .ok (.iconst (-1), 1) := by decide +kernel
theorem dX0_readInto_97 : decode cX0_readInto 97 = .ok (.goto 7, 3) := by decide +kernel
theorem dX0_readInto_100 : decode cX0_readInto 100 = .ok (.aload_n 0, 1) := by decide +kernel
theorem dX0_readInto_101 : decode cX0_readInto 101 = .ok (.getfield 22, 3) := by decide +kernel
theorem dX0_readInto_104 : decode cX0_readInto 104 = .ok (.ireturn, 1) := by decide +kernel
theorem dX0_readZone_0 : decode cX0_readZone 0 = .ok (.aload_n 0, 1) := by decide +kernel
theorem dX0_readZone_1 : decode cX0_readZone 1 = .ok (.invokevirtual 36, 3) := by decide +kernel
theorem dX0_readZone_4 : decode cX0_readZone 4 = .ok (.aload_n 0, 1) := by decide +kernel
theorem dX0_readZone_5 : decode cX0_readZone 5 = .ok (.getfield 19, 3) := by decide +kernel
theorem dX0_readZone_8 : decode cX0_readZone 8 = .ok (.iconst 1, 1) := by decide +kernel
theorem dX0_readZone_9 : decode cX0_readZone 9 = .ok (.if_icmp .ne 16, 3) := by decide +kernel
theorem dX0_readZone_12 : decode cX0_readZone 12 = .ok (.aload_n 0, 1) := by decide +kernel
theorem dX0_readZone_13 : decode cX0_readZone 13 = .ok (.getfield 25, 3) := by decide +kernel
theorem dX0_readZone_16 : decode cX0_readZone 16 = .ok (.aload_n 0, 1) := by decide +kernel
theorem dX0_readZone_17 : decode cX0_readZone 17 = .ok (.getfield 22, 3) := by decide +kernel
theorem dX0_readZone_20 : decode cX0_readZone 20 = .ok (.isub, 1) := by decide +kernel
theorem dX0_readZone_21 : decode cX0_readZone 21 = .ok (.iconst 1, 1) := by decide +kernel
theorem dX0_readZone_22 : decode cX0_readZone 22 = .ok (.if_icmp .eq 5, 3) := by decide +kernel
theorem dX0_readZone_25 : decode cX0_readZone 25 = .ok (.iconst 0, 1) := by decide +kernel
theorem dX0_readZone_26 : decode cX0_readZone 26 = .ok (.ireturn, 1) := by decide +kernel
theorem dX0_readZone_27 : decode cX0_readZone 27 = .ok (.aload_n 0, 1) := by decide +kernel
theorem dX0_readZone_28 : decode cX0_readZone 28 = .ok (.getfield 11, 3) := by decide +kernel
theorem dX0_readZone_31 : decode cX0_readZone 31 = .ok (.aload_n 0, 1) := by decide +kernel
theorem dX0_readZone_32 : decode cX0_readZone 32 = .ok (.getfield 22, 3) := by decide +kernel
theorem dX0_readZone_35 : decode cX0_readZone 35 = .ok (.iaload, 1) := by decide +kernel
theorem dX0_readZone_36 : decode cX0_readZone 36 = .ok (.invokestatic 54, 3) := by decide +kernel
theorem dX0_readZone_39 : decode cX0_readZone 39 = .ok (.istore_n 2, 1) := by decide +kernel
theorem dX0_readZone_40 : decode cX0_readZone 40 = .ok (.iload_n 2, 1) := by decide +kernel
theorem dX0_readZone_41 : decode cX0_readZone 41 = .ok (.invokestatic 58, 3) := by decide +kernel
theorem dX0_readZone_44 : decode cX0_readZone 44 = .ok (.ifCond .ne 5, 3) := by decide +kernel
theorem dX0_readZone_47 : decode cX0_readZone 47 = .ok (.iconst 0, 1) := by decide +kernel
theorem dX0_readZone_48 : decode cX0_readZone 48 = .ok (.ireturn, 1) := by decide +kernel
theorem dX0_readZone_49 : decode cX0_readZone 49 = .ok (.aload_n 0, 1) := by decide +kernel
theorem dX0_readZone_50 : decode cX0_readZone 50 = .ok (.iconst 1, 1) := by decide +kernel
theorem dX0_readZone_51 : decode cX0_readZone 51 = .ok (.bipush 99, 2) := by decide +kernel
theorem dX0_readZone_53 : decode cX0_readZone 53 = .ok (.invokevirtual 62, 3) := by decide +kernel
theorem dX0_readZone_56 : decode cX0_readZone 56 = .ok (.ifCond .ne 5, 3) := by decide +kernel
theorem dX0_readZone_59 : decode cX0_readZone 59 = .ok (.iconst 0, 1) := by decide +kernel
theorem dX0_readZone_60 : decode cX0_readZone 60 = .ok (.ireturn, 1) := by decide +kernel
theorem dX0_readZone_61 : decode cX0_readZone 61 = .ok (.aload_n 1, 1) := by decide +kernel
theorem dX0_readZone_62 : decode cX0_readZone 62 = .ok (.getfield 66, 3) := by decide +kernel
theorem dX0_readZone_65 : decode cX0_readZone 65 = .ok (.iload_n 2, 1) := by decide +kernel
theorem dX0_readZone_66 : decode cX0_readZone 66 = .ok (.aload_n 0, 1) := by decide +kernel
theorem dX0_readZone_67 : decode cX0_readZone 67 = .ok (.getfield 28, 3) := by decide +kernel
theorem dX0_readZone_70 : decode cX0_readZone 70 = .ok (.iastore, 1) := by decide +kernel
theorem dX0_readZone_71 : decode cX0_readZone 71 = .ok (.aload_n 0, 1) := by decide +kernel
theorem dX0_readZone_72 : decode cX0_readZone 72 = .ok (.iconst 1, 1) := by decide +kernel
theorem dX0_readZone_73 : decode cX0_readZone 73 = .ok (.bipush 99, 2) := by decide +kernel
theorem dX0_readZone_75 : decode cX0_readZone 75 = .ok (.invokevirtual 62, 3) := by decide +kernel
theorem dX0_readZone_78 : decode cX0_readZone 78 = .ok (.ifCond .ne 5, 3) := by decide +kernel
theorem dX0_readZone_81 : decode cX0_readZone 81 = .ok (.iconst 0, 1) := by decide +kernel
theorem dX0_readZone_82 : decode cX0_readZone 82 = .ok (.ireturn, 1) := by decide +kernel
theorem dX0_readZone_83 : decode cX0_readZone 83 = .ok (.aload_n 1, 1) := by decide +kernel
theorem dX0_readZone_84 : decode cX0_readZone 84 = .ok (.getfield 69, 3) := by decide +kernel
theorem dX0_readZone_87 : decode cX0_readZone 87 = .ok (.iload_n 2, 1) := by decide +kernel
theorem dX0_readZone_88 : decode cX0_readZone 88 = .ok (.aload_n 0, 1) := by decide +kernel
theorem dX0_readZone_89 : decode cX0_readZone 89 = .ok (.getfield 28, 3) := by decide +kernel
theorem dX0_readZone_92 : decode cX0_readZone 92 = .ok (.iastore, 1) := by decide +kernel
theorem dX0_readZone_93 : decode cX0_readZone 93 = .ok (.aload_n 0, 1) := by decide +kernel
theorem dX0_readZone_94 : decode cX0_readZone 94 = .ok (.iconst 1, 1) := by decide +kernel
theorem dX0_readZone_95 : decode cX0_readZone 95 = .ok (.bipush 99, 2) := by decide +kernel
theorem dX0_readZone_97 : decode cX0_readZone 97 = .ok (.invokevirtual 62, 3) := by decide +kernel
theorem dX0_readZone_100 : decode cX0_readZone 100 = .ok (.ifCond .ne 5, 3) := by decide +kernel
theorem dX0_readZone_103 : decode cX0_readZone 103 = .ok (.iconst 0, 1) := by decide +kernel
theorem dX0_readZone_104 : decode cX0_readZone 104 = .ok (.ireturn, 1) := by decide +kernel
theorem dX0_readZone_105 : decode cX0_readZone 105 = .ok (.aload_n 1, 1) := by decide +kernel
theorem dX0_readZone_106 : decode cX0_readZone 106 = .ok (.getfield 72, 3) := by decide +kernel
theorem dX0_readZone_109 : decode cX0_readZone 109 = .ok (.iload_n 2, 1) := by decide +kernel
theorem dX0_readZone_110 : decode cX0_readZone 110 = .ok (.aload_n 0, 1) := by decide +kernel
theorem dX0_readZone_111 : decode cX0_readZone 111 = .ok (.getfield 28, 3) := by decide +kernel
theorem dX0_readZone_114 : decode cX0_readZone 114 = .ok (.iastore, 1) := by decide +kernel
theorem dX0_readZone_115 : decode cX0_readZone 115 = .ok (.aload_n 0, 1) := by decide +kernel
theorem dX0_readZone_116 : decode cX0_readZone 116 = .ok (.invokevirtual 75, 3) := by decide +kernel
theorem dX0_readZone_119 : decode cX0_readZone 119 = .ok (.ireturn, 1) := by decide +kernel
theorem dX0_readRow_0 : decode cX0_readRow 0 = .ok (.aload_n 0, 1) := by decide +kernel
theorem dX0_readRow_1 : decode cX0_readRow 1 = .ok (.iconst 0, 1) := by decide +kernel
theorem dX0_readRow_2 : decode cX0_readRow 2 = .ok (.iconst 5, 1) := by decide +kernel
theorem dX0_readRow_3 : decode cX0_readRow 3 = .ok (.invokevirtual 62, 3) := by decide +kernel
theorem dX0_readRow_6 : decode cX0_readRow 6 = .ok (.ifCond .ne 5, 3) := by decide +kernel
theorem dX0_readRow_9 : decode cX0_readRow 9 = .ok (.iconst 0, 1) := by decide +kernel
theorem dX0_readRow_10 : decode cX0_readRow 10 = .ok (.ireturn, 1) := by decide +kernel
theorem dX0_readRow_11 : decode cX0_readRow 11 = .ok (.aload_n 0, 1) := by decide +kernel
theorem dX0_readRow_12 : decode cX0_readRow 12 = .ok (.getfield 28, 3) := by decide +kernel
theorem dX0_readRow_15 : decode cX0_readRow 15 = .ok (.istore_n 2, 1) := by decide +kernel
theorem dX0_readRow_16 : decode cX0_readRow 16 = .ok (.aload_n 0, 1) := by decide +kernel
theorem dX0_readRow_17 : decode cX0_readRow 17 = .ok (.invokevirtual 36, 3) := by decide +kernel
theorem dX0_readRow_20 : decode cX0_readRow 20 = .ok (.aload_n 0, 1) := by decide +kernel
theorem dX0_readRow_21 : decode cX0_readRow 21 = .ok (.getfield 19, 3) := by decide +kernel
theorem dX0_readRow_24 : decode cX0_readRow 24 = .ok (.iconst 1, 1) := by decide +kernel
theorem dX0_readRow_25 : decode cX0_readRow 25 = .ok (.if_icmp .ne 17, 3) := by decide +kernel
theorem dX0_readRow_28 : decode cX0_readRow 28 = .ok (.aload_n 0, 1) := by decide +kernel
theorem dX0_readRow_29 : decode cX0_readRow 29 = .ok (.getfield 25, 3) := by decide +kernel
theorem dX0_readRow_32 : decode cX0_readRow 32 = .ok (.aload_n 0, 1) := by decide +kernel
theorem dX0_readRow_33 : decode cX0_readRow 33 = .ok (.getfield 22, 3) := by decide +kernel
theorem dX0_readRow_36 : decode cX0_readRow 36 = .ok (.isub, 1) := by decide +kernel
theorem dX0_readRow_37 : decode cX0_readRow 37 = .ok (.bipush 8, 2) := by decide +kernel
theorem dX0_readRow_39 : decode cX0_readRow 39 = .ok (.if_icmp .eq 5, 3) := by decide +kernel
theorem dX0_readRow_42 : decode cX0_readRow 42 = .ok (.iconst 0, 1) := by decide +kernel
theorem dX0_readRow_43 : decode cX0_readRow 43 = .ok (.ireturn, 1) := by decide +kernel
theorem dX0_readRow_44 : decode cX0_readRow 44 = .ok (.iconst 0, 1) := by decide +kernel
theorem dX0_readRow_45 : decode cX0_readRow 45 = .ok (.istore_n 3, 1) := by decide +kernel
theorem dX0_readRow_46 : decode cX0_readRow 46 = .ok (.iload_n 3, 1) := by decide +kernel
theorem dX0_readRow_47 : decode cX0_readRow 47 = .ok (.bipush 8, 2) := by decide +kernel
theorem dX0_readRow_49 : decode cX0_readRow 49 = .ok (.if_icmp .ge 68, 3) := by decide +kernel
theorem dX0_readRow_52 : decode cX0_readRow 52 = .ok (.aload_n 0, 1) := by decide +kernel
theorem dX0_readRow_53 : decode cX0_readRow 53 = .ok (.getfield 11, 3) := by decide +kernel
theorem dX0_readRow_56 : decode cX0_readRow 56 = .ok (.aload_n 0, 1) := by decide +kernel
theorem dX0_readRow_57 : decode cX0_readRow 57 = .ok (.getfield 22, 3) := by decide +kernel
theorem dX0_readRow_60 : decode cX0_readRow 60 = .ok (.iload_n 3, 1) := by decide +kernel
theorem dX0_readRow_61 : decode cX0_readRow 61 = .ok (.iadd, 1) := by decide +kernel
theorem dX0_readRow_62 : decode cX0_readRow 62 = .ok (.iaload, 1) := by decide +kernel
theorem dX0_readRow_63 : decode cX0_readRow 63 = .ok (.istore 4, 2) := by decide +kernel
theorem dX0_readRow_65 : decode cX0_readRow 65 = .ok (.iload 4, 2) := by decide +kernel
theorem dX0_readRow_67 : decode cX0_readRow 67 = .ok (.bipush 46, 2) := by decide +kernel
theorem dX0_readRow_69 : decode cX0_readRow 69 = .ok (.if_icmp .eq 16, 3) := by decide +kernel
theorem dX0_readRow_72 : decode cX0_readRow 72 = .ok (.iload 4, 2) := by decide +kernel
theorem dX0_readRow_74 : decode cX0_readRow 74 = .ok (.invokestatic 54, 3) := by decide +kernel
theorem dX0_readRow_77 : decode cX0_readRow 77 = .ok (.invokestatic 58, 3) := by decide +kernel
theorem dX0_readRow_80 : decode cX0_readRow 80 = .ok (.ifCond .ne 5, 3) := by decide +kernel
theorem dX0_readRow_83 : decode cX0_readRow 83 = .ok (.iconst 0, 1) := by decide +kernel
theorem dX0_readRow_84 : decode cX0_readRow 84 = .ok (.ireturn, 1) := by decide +kernel
theorem dX0_readRow_85 : decode cX0_readRow 85 = .ok (.aload_n 1, 1) := by decide +kernel
theorem dX0_readRow_86 : decode cX0_readRow 86 = .ok (.getfield 79, 3) := by decide +kernel
theorem dX0_readRow_89 : decode cX0_readRow 89 = .ok (.iload_n 3, 1) := by decide +kernel
theorem dX0_readRow_90 : decode cX0_readRow 90 = .ok (.iload_n 2, 1) := by decide +kernel
theorem dX0_readRow_91 : decode cX0_readRow 91 = .ok (.invokestatic 82, 3) := by decide +kernel
theorem dX0_readRow_94 : decode cX0_readRow 94 = .ok (.iload 4, 2) := by decide +kernel
theorem dX0_readRow_96 : decode cX0_readRow 96 = .ok (.bipush 46, 2) := by decide +kernel
theorem dX0_readRow_98 : decode cX0_readRow 98 = .ok (.if_icmp .ne 7, 3) := by decide +kernel
theorem dX0_readRow_101 : decode cX0_readRow 101 = .ok (.iconst (-1), 1) := by decide +kernel
theorem dX0_readRow_102 : decode cX0_readRow 102 = .ok (.goto 8, 3) := by decide +kernel
theorem dX0_readRow_105 : decode cX0_readRow 105 = .ok (.iload 4, 2) := by decide +kernel
theorem dX0_readRow_107 : decode cX0_readRow 107 = .ok (.invokestatic 54, 3) := by decide +kernel
theorem dX0_readRow_110 : decode cX0_readRow 110 = .ok (.iastore, 1) := by decide +kernel
theorem dX0_readRow_111 : decode cX0_readRow 111 = .ok (.iinc 3 1, 3) := by decide +kernel
theorem dX0_readRow_114 : decode cX0_readRow 114 = .ok (.goto (-68), 3) := by decide +kernel
theorem dX0_readRow_117 : decode cX0_readRow 117 = .ok (.aload_n 0, 1) := by decide +kernel
theorem dX0_readRow_118 : decode cX0_readRow 118 = .ok (.invokevirtual 75, 3) := by decide +kernel
theorem dX0_readRow_121 : decode cX0_readRow 121 = .ok (.ireturn, 1) := by decide +kernel
theorem dX0_zoneOf_0 : decode cX0_zoneOf 0 = .ok (.iload_n 0, 1) := by decide +kernel
theorem dX0_zoneOf_1 : decode cX0_zoneOf 1 = .ok (.bipush 97, 2) := by decide +kernel
theorem dX0_zoneOf_3 : decode cX0_zoneOf 3 = .ok (.isub, 1) := by decide +kernel
theorem dX0_zoneOf_4 : decode cX0_zoneOf 4 = .ok (.ireturn, 1) := by decide +kernel
theorem dX0_takeNumber_0 : decode cX0_takeNumber 0 = .ok (.aload_n 0, 1) := by decide +kernel
theorem dX0_takeNumber_1 : decode cX0_takeNumber 1 = .ok (.invokevirtual 36, 3) := by decide +kernel
theorem dX0_takeNumber_4 : decode cX0_takeNumber 4 = .ok (.aload_n 0, 1) := by decide +kernel
theorem dX0_takeNumber_5 : decode cX0_takeNumber 5 = .ok (.getfield 19, 3) := by decide +kernel
theorem dX0_takeNumber_8 : decode cX0_takeNumber 8 = .ok (.iconst 2, 1) := by decide +kernel
theorem dX0_takeNumber_9 : decode cX0_takeNumber 9 = .ok (.if_icmp .ne 19, 3) := by decide +kernel
theorem dX0_takeNumber_12 : decode cX0_takeNumber 12 = .ok (.aload_n 0, 1) := by decide +kernel
theorem dX0_takeNumber_13 : decode cX0_takeNumber 13 = .ok (.getfield 28, 3) := by decide +kernel
theorem dX0_takeNumber_16 : decode cX0_takeNumber 16 = .ok (.iload_n 1, 1) := by decide +kernel
theorem dX0_takeNumber_17 : decode cX0_takeNumber 17 = .ok (.iload_n 2, 1) := by decide +kernel
theorem dX0_takeNumber_18 : decode cX0_takeNumber 18 = .ok (.invokestatic 86, 3) := by decide +kernel
theorem dX0_takeNumber_21 : decode cX0_takeNumber 21 = .ok (.ifCond .eq 7, 3) := by decide +kernel
theorem dX0_takeNumber_24 : decode cX0_takeNumber 24 = .ok (.iconst 1, 1) := by decide +kernel
theorem dX0_takeNumber_25 : decode cX0_takeNumber 25 = .ok (.goto 4, 3) := by decide +kernel
theorem dX0_takeNumber_28 : decode cX0_takeNumber 28 = .ok (.iconst 0, 1) := by decide +kernel
theorem dX0_takeNumber_29 : decode cX0_takeNumber 29 = .ok (.ireturn, 1) := by decide +kernel
theorem dX0_takeStop_0 : decode cX0_takeStop 0 = .ok (.aload_n 0, 1) := by decide +kernel
theorem dX0_takeStop_1 : decode cX0_takeStop 1 = .ok (.invokevirtual 36, 3) := by decide +kernel
theorem dX0_takeStop_4 : decode cX0_takeStop 4 = .ok (.aload_n 0, 1) := by decide +kernel
theorem dX0_takeStop_5 : decode cX0_takeStop 5 = .ok (.getfield 19, 3) := by decide +kernel
theorem dX0_takeStop_8 : decode cX0_takeStop 8 = .ok (.iconst 3, 1) := by decide +kernel
theorem dX0_takeStop_9 : decode cX0_takeStop 9 = .ok (.if_icmp .ne 7, 3) := by decide +kernel
theorem dX0_takeStop_12 : decode cX0_takeStop 12 = .ok (.iconst 1, 1) := by decide +kernel
theorem dX0_takeStop_13 : decode cX0_takeStop 13 = .ok (.goto 4, 3) := by decide +kernel
theorem dX0_takeStop_16 : decode cX0_takeStop 16 = .ok (.iconst 0, 1) := by decide +kernel
theorem dX0_takeStop_17 : decode cX0_takeStop 17 = .ok (.ireturn, 1) := by decide +kernel
theorem dX0_isWord_0 : decode cX0_isWord 0 = .ok (.aload_n 0, 1) := by decide +kernel
theorem dX0_isWord_1 : decode cX0_isWord 1 = .ok (.getfield 19, 3) := by decide +kernel
theorem dX0_isWord_4 : decode cX0_isWord 4 = .ok (.iconst 1, 1) := by decide +kernel
theorem dX0_isWord_5 : decode cX0_isWord 5 = .ok (.if_icmp .ne 19, 3) := by decide +kernel
theorem dX0_isWord_8 : decode cX0_isWord 8 = .ok (.aload_n 0, 1) := by decide +kernel
theorem dX0_isWord_9 : decode cX0_isWord 9 = .ok (.getfield 25, 3) := by decide +kernel
theorem dX0_isWord_12 : decode cX0_isWord 12 = .ok (.aload_n 0, 1) := by decide +kernel
theorem dX0_isWord_13 : decode cX0_isWord 13 = .ok (.getfield 22, 3) := by decide +kernel
theorem dX0_isWord_16 : decode cX0_isWord 16 = .ok (.isub, 1) := by decide +kernel
theorem dX0_isWord_17 : decode cX0_isWord 17 = .ok (.aload_n 1, 1) := by decide +kernel
theorem dX0_isWord_18 : decode cX0_isWord 18 = .ok (.invokevirtual 90, 3) := by decide +kernel
theorem dX0_isWord_21 : decode cX0_isWord 21 = .ok (.if_icmp .eq 5, 3) := by decide +kernel
theorem dX0_isWord_24 : decode cX0_isWord 24 = .ok (.iconst 0, 1) := by decide +kernel
theorem dX0_isWord_25 : decode cX0_isWord 25 = .ok (.ireturn, 1) := by decide +kernel
theorem dX0_isWord_26 : decode cX0_isWord 26 = .ok (.iconst 0, 1) := by decide +kernel
theorem dX0_isWord_27 : decode cX0_isWord 27 = .ok (.istore_n 2, 1) := by decide +kernel
theorem dX0_isWord_28 : decode cX0_isWord 28 = .ok (.iload_n 2, 1) := by decide +kernel
theorem dX0_isWord_29 : decode cX0_isWord 29 = .ok (.aload_n 1, 1) := by decide +kernel
theorem dX0_isWord_30 : decode cX0_isWord 30 = .ok (.invokevirtual 90, 3) := by decide +kernel
theorem dX0_isWord_33 : decode cX0_isWord 33 = .ok (.if_icmp .ge 30, 3) := by decide +kernel
theorem dX0_isWord_36 : decode cX0_isWord 36 = .ok (.aload_n 0, 1) := by decide +kernel
theorem dX0_isWord_37 : decode cX0_isWord 37 = .ok (.getfield 11, 3) := by decide +kernel
theorem dX0_isWord_40 : decode cX0_isWord 40 = .ok (.aload_n 0, 1) := by decide +kernel
theorem dX0_isWord_41 : decode cX0_isWord 41 = .ok (.getfield 22, 3) := by decide +kernel
theorem dX0_isWord_44 : decode cX0_isWord 44 = .ok (.iload_n 2, 1) := by decide +kernel
theorem dX0_isWord_45 : decode cX0_isWord 45 = .ok (.iadd, 1) := by decide +kernel
theorem dX0_isWord_46 : decode cX0_isWord 46 = .ok (.iaload, 1) := by decide +kernel
theorem dX0_isWord_47 : decode cX0_isWord 47 = .ok (.aload_n 1, 1) := by decide +kernel
theorem dX0_isWord_48 : decode cX0_isWord 48 = .ok (.iload_n 2, 1) := by decide +kernel
theorem dX0_isWord_49 : decode cX0_isWord 49 = .ok (.invokevirtual 95, 3) := by decide +kernel
theorem dX0_isWord_52 : decode cX0_isWord 52 = .ok (.if_icmp .eq 5, 3) := by decide +kernel
theorem dX0_isWord_55 : decode cX0_isWord 55 = .ok (.iconst 0, 1) := by decide +kernel
theorem dX0_isWord_56 : decode cX0_isWord 56 = .ok (.ireturn, 1) := by decide +kernel
theorem dX0_isWord_57 : decode cX0_isWord 57 = .ok (.iinc 2 1, 3) := by decide +kernel
theorem dX0_isWord_60 : decode cX0_isWord 60 = .ok (.goto (-32), 3) := by decide +kernel
theorem dX0_isWord_63 : decode cX0_isWord 63 = .ok (.iconst 1, 1) := by decide +kernel
theorem dX0_isWord_64 : decode cX0_isWord 64 = .ok (.ireturn, 1) := by decide +kernel
theorem dX0_takeToken_0 : decode cX0_takeToken 0 = .ok (.aload_n 0, 1) := by decide +kernel
theorem dX0_takeToken_1 : decode cX0_takeToken 1 = .ok (.aload_n 0, 1) := by decide +kernel
theorem dX0_takeToken_2 : decode cX0_takeToken 2 = .ok (.getfield 25, 3) := by decide +kernel
theorem dX0_takeToken_5 : decode cX0_takeToken 5 = .ok (.putfield 22, 3) := by decide +kernel
theorem dX0_takeToken_8 : decode cX0_takeToken 8 = .ok (.aload_n 0, 1) := by decide +kernel
theorem dX0_takeToken_9 : decode cX0_takeToken 9 = .ok (.getfield 22, 3) := by decide +kernel
theorem dX0_takeToken_12 : decode cX0_takeToken 12 = .ok (.aload_n 0, 1) := by decide +kernel
theorem dX0_takeToken_13 : decode cX0_takeToken 13 = .ok (.getfield 15, 3) := by decide +kernel
theorem dX0_takeToken_16 : decode cX0_takeToken 16 = .ok (.if_icmp .ge 30, 3) := by decide +kernel
theorem dX0_takeToken_19 : decode cX0_takeToken 19 = .ok (.aload_n 0, 1) := by decide +kernel
theorem dX0_takeToken_20 : decode cX0_takeToken 20 = .ok (.getfield 11, 3) := by decide +kernel
theorem dX0_takeToken_23 : decode cX0_takeToken 23 = .ok (.aload_n 0, 1) := by decide +kernel
theorem dX0_takeToken_24 : decode cX0_takeToken 24 = .ok (.getfield 22, 3) := by decide +kernel
theorem dX0_takeToken_27 : decode cX0_takeToken 27 = .ok (.iaload, 1) := by decide +kernel
theorem dX0_takeToken_28 : decode cX0_takeToken 28 = .ok (.bipush 32, 2) := by decide +kernel
theorem dX0_takeToken_30 : decode cX0_takeToken 30 = .ok (.if_icmp .ne 16, 3) := by decide +kernel
theorem dX0_takeToken_33 : decode cX0_takeToken 33 = .ok (.aload_n 0, 1) := by decide +kernel
theorem dX0_takeToken_34 : decode cX0_takeToken 34 = .ok (.dup, 1) := by decide +kernel
theorem dX0_takeToken_35 : decode cX0_takeToken 35 = .ok (.getfield 22, 3) := by decide +kernel
theorem dX0_takeToken_38 : decode cX0_takeToken 38 = .ok (.iconst 1, 1) := by decide +kernel
theorem dX0_takeToken_39 : decode cX0_takeToken 39 = .ok (.iadd, 1) := by decide +kernel
theorem dX0_takeToken_40 : decode cX0_takeToken 40 = .ok (.putfield 22, 3) := by decide +kernel
theorem dX0_takeToken_43 : decode cX0_takeToken 43 = .ok (.goto (-35), 3) := by decide +kernel
theorem dX0_takeToken_46 : decode cX0_takeToken 46 = .ok (.aload_n 0, 1) := by decide +kernel
theorem dX0_takeToken_47 : decode cX0_takeToken 47 = .ok (.aload_n 0, 1) := by decide +kernel
theorem dX0_takeToken_48 : decode cX0_takeToken 48 = .ok (.getfield 22, 3) := by decide +kernel
theorem dX0_takeToken_51 : decode cX0_takeToken 51 = .ok (.putfield 25, 3) := by decide +kernel
theorem dX0_takeToken_54 : decode cX0_takeToken 54 = .ok (.aload_n 0, 1) := by decide +kernel
theorem dX0_takeToken_55 : decode cX0_takeToken 55 = .ok (.getfield 22, 3) := by decide +kernel
theorem dX0_takeToken_58 : decode cX0_takeToken 58 = .ok (.aload_n 0, 1) := by decide +kernel
theorem dX0_takeToken_59 : decode cX0_takeToken 59 = .ok (.getfield 15, 3) := by decide +kernel
theorem dX0_takeToken_62 : decode cX0_takeToken 62 = .ok (.if_icmp .lt 9, 3) := by decide +kernel
theorem dX0_takeToken_65 : decode cX0_takeToken 65 = .ok (.aload_n 0, 1) := by decide +kernel
theorem dX0_takeToken_66 : decode cX0_takeToken 66 = .ok (.iconst 0, 1) := by decide +kernel
theorem dX0_takeToken_67 : decode cX0_takeToken 67 = .ok (.putfield 19, 3) := by decide +kernel
theorem dX0_takeToken_70 : decode cX0_takeToken 70 = .ok (.return_, 1) := by decide +kernel
theorem dX0_takeToken_71 : decode cX0_takeToken 71 = .ok (.aload_n 0, 1) := by decide +kernel
theorem dX0_takeToken_72 : decode cX0_takeToken 72 = .ok (.getfield 11, 3) := by decide +kernel
theorem dX0_takeToken_75 : decode cX0_takeToken 75 = .ok (.aload_n 0, 1) := by decide +kernel
theorem dX0_takeToken_76 : decode cX0_takeToken 76 = .ok (.getfield 22, 3) := by decide +kernel
theorem dX0_takeToken_79 : decode cX0_takeToken 79 = .ok (.iaload, 1) := by decide +kernel
theorem dX0_takeToken_80 : decode cX0_takeToken 80 = .ok (.istore_n 1, 1) := by decide +kernel
theorem dX0_takeToken_81 : decode cX0_takeToken 81 = .ok (.iload_n 1, 1) := by decide +kernel
theorem dX0_takeToken_82 : decode cX0_takeToken 82 = .ok (.invokestatic 99, 3) := by decide +kernel
theorem dX0_takeToken_85 : decode cX0_takeToken 85 = .ok (.ifCond .eq 10, 3) := by decide +kernel
theorem dX0_takeToken_88 : decode cX0_takeToken 88 = .ok (.aload_n 0, 1) := by decide +kernel
theorem dX0_takeToken_89 : decode cX0_takeToken 89 = .ok (.invokevirtual 102, 3) := by decide +kernel
theorem dX0_takeToken_92 : decode cX0_takeToken 92 = .ok (.goto 42, 3) := by decide +kernel
theorem dX0_takeToken_95 : decode cX0_takeToken 95 = .ok (.iload_n 1, 1) := by decide +kernel
theorem dX0_takeToken_96 : decode cX0_takeToken 96 = .ok (.invokestatic 105, 3) := by decide +kernel
theorem dX0_takeToken_99 : decode cX0_takeToken 99 = .ok (.ifCond .eq 10, 3) := by decide +kernel
theorem dX0_takeToken_102 : decode cX0_takeToken 102 = .ok (.aload_n 0, 1) := by decide +kernel
theorem dX0_takeToken_103 : decode cX0_takeToken 103 = .ok (.invokevirtual 108, 3) := by decide +kernel
theorem dX0_takeToken_106 : decode cX0_takeToken 106 = .ok (.goto 28, 3) := by decide +kernel
theorem dX0_takeToken_109 : decode cX0_takeToken 109 = .ok (.aload_n 0, 1) := by decide +kernel
theorem dX0_takeToken_110 : decode cX0_takeToken 110 = .ok (.aload_n 0, 1) := by decide +kernel
theorem dX0_takeToken_111 : decode cX0_takeToken 111 = .ok (.getfield 22, 3) := by decide +kernel
theorem dX0_takeToken_114 : decode cX0_takeToken 114 = .ok (.iconst 1, 1) := by decide +kernel
theorem dX0_takeToken_115 : decode cX0_takeToken 115 = .ok (.iadd, 1) := by decide +kernel
theorem dX0_takeToken_116 : decode cX0_takeToken 116 = .ok (.putfield 25, 3) := by decide +kernel
theorem dX0_takeToken_119 : decode cX0_takeToken 119 = .ok (.aload_n 0, 1) := by decide +kernel
theorem dX0_takeToken_120 : decode cX0_takeToken 120 = .ok (.iload_n 1, 1) := by decide +kernel
theorem dX0_takeToken_121 : decode cX0_takeToken 121 = .ok (.bipush 59, 2) := by decide +kernel
theorem dX0_takeToken_123 : decode cX0_takeToken 123 = .ok (.if_icmp .ne 7, 3) := by decide +kernel
theorem dX0_takeToken_126 : decode cX0_takeToken 126 = .ok (.iconst 3, 1) := by decide +kernel
theorem dX0_takeToken_127 : decode cX0_takeToken 127 = .ok (.goto 4, 3) := by decide +kernel
theorem dX0_takeToken_130 : decode cX0_takeToken 130 = .ok (.iconst 4, 1) := by decide +kernel
theorem dX0_takeToken_131 : decode cX0_takeToken 131 = .ok (.putfield 19, 3) := by decide +kernel
theorem dX0_takeToken_134 : decode cX0_takeToken 134 = .ok (.return_, 1) := by decide +kernel
theorem dX0_takeWord_0 : decode cX0_takeWord 0 = .ok (.aload_n 0, 1) := by decide +kernel
theorem dX0_takeWord_1 : decode cX0_takeWord 1 = .ok (.getfield 25, 3) := by decide +kernel
theorem dX0_takeWord_4 : decode cX0_takeWord 4 = .ok (.aload_n 0, 1) := by decide +kernel
theorem dX0_takeWord_5 : decode cX0_takeWord 5 = .ok (.getfield 15, 3) := by decide +kernel
theorem dX0_takeWord_8 : decode cX0_takeWord 8 = .ok (.if_icmp .ge 31, 3) := by decide +kernel
theorem dX0_takeWord_11 : decode cX0_takeWord 11 = .ok (.aload_n 0, 1) := by decide +kernel
theorem dX0_takeWord_12 : decode cX0_takeWord 12 = .ok (.getfield 11, 3) := by decide +kernel
theorem dX0_takeWord_15 : decode cX0_takeWord 15 = .ok (.aload_n 0, 1) := by decide +kernel
theorem dX0_takeWord_16 : decode cX0_takeWord 16 = .ok (.getfield 25, 3) := by decide +kernel
theorem dX0_takeWord_19 : decode cX0_takeWord 19 = .ok (.iaload, 1) := by decide +kernel
theorem dX0_takeWord_20 : decode cX0_takeWord 20 = .ok (.invokestatic 99, 3) := by decide +kernel
theorem dX0_takeWord_23 : decode cX0_takeWord 23 = .ok (.ifCond .eq 16, 3) := by decide +kernel
theorem dX0_takeWord_26 : decode cX0_takeWord 26 = .ok (.aload_n 0, 1) := by decide +kernel
theorem dX0_takeWord_27 : decode cX0_takeWord 27 = .ok (.dup, 1) := by decide +kernel
theorem dX0_takeWord_28 : decode cX0_takeWord 28 = .ok (.getfield 25, 3) := by decide +kernel
theorem dX0_takeWord_31 : decode cX0_takeWord 31 = .ok (.iconst 1, 1) := by decide +kernel
theorem dX0_takeWord_32 : decode cX0_takeWord 32 = .ok (.iadd, 1) := by decide +kernel
theorem dX0_takeWord_33 : decode cX0_takeWord 33 = .ok (.putfield 25, 3) := by decide +kernel
theorem dX0_takeWord_36 : decode cX0_takeWord 36 = .ok (.goto (-36), 3) := by decide +kernel
theorem dX0_takeWord_39 : decode cX0_takeWord 39 = .ok (.aload_n 0, 1) := by decide +kernel
theorem dX0_takeWord_40 : decode cX0_takeWord 40 = .ok (.iconst 1, 1) := by decide +kernel
theorem dX0_takeWord_41 : decode cX0_takeWord 41 = .ok (.putfield 19, 3) := by decide +kernel
theorem dX0_takeWord_44 : decode cX0_takeWord 44 = .ok (.return_, 1) := by decide +kernel
theorem dX0_takeDigits_0 : decode cX0_takeDigits 0 = .ok (.aload_n 0, 1) := by decide +kernel
theorem dX0_takeDigits_1 : decode cX0_takeDigits 1 = .ok (.iconst 0, 1) := by decide +kernel
theorem dX0_takeDigits_2 : decode cX0_takeDigits 2 = .ok (.putfield 28, 3) := by decide +kernel
theorem dX0_takeDigits_5 : decode cX0_takeDigits 5 = .ok (.aload_n 0, 1) := by decide +kernel
theorem dX0_takeDigits_6 : decode cX0_takeDigits 6 = .ok (.getfield 25, 3) := by decide +kernel
theorem dX0_takeDigits_9 : decode cX0_takeDigits 9 = .ok (.aload_n 0, 1) := by decide +kernel
theorem dX0_takeDigits_10 : decode cX0_takeDigits 10 = .ok (.getfield 15, 3) := by decide +kernel
theorem dX0_takeDigits_13 : decode cX0_takeDigits 13 = .ok (.if_icmp .ge 60, 3) := by decide +kernel
theorem dX0_takeDigits_16 : decode cX0_takeDigits 16 = .ok (.aload_n 0, 1) := by decide +kernel
theorem dX0_takeDigits_17 : decode cX0_takeDigits 17 = .ok (.getfield 11, 3) := by decide +kernel
theorem dX0_takeDigits_20 : decode cX0_takeDigits 20 = .ok (.aload_n 0, 1) := by decide +kernel
theorem dX0_takeDigits_21 : decode cX0_takeDigits 21 = .ok (.getfield 25, 3) := by decide +kernel
theorem dX0_takeDigits_24 : decode cX0_takeDigits 24 = .ok (.iaload, 1) := by decide +kernel
theorem dX0_takeDigits_25 : decode cX0_takeDigits 25 = .ok (.invokestatic 105, 3) := by decide +kernel
theorem dX0_takeDigits_28 : decode cX0_takeDigits 28 = .ok (.ifCond .eq 45, 3) := by decide +kernel
theorem dX0_takeDigits_31 : decode cX0_takeDigits 31 = .ok (.aload_n 0, 1) := by decide +kernel
theorem dX0_takeDigits_32 : decode cX0_takeDigits 32 = .ok (.bipush 100, 2) := by decide +kernel
theorem dX0_takeDigits_34 : decode cX0_takeDigits 34 = .ok (.bipush 10, 2) := by decide +kernel
theorem dX0_takeDigits_36 : decode cX0_takeDigits 36 = .ok (.aload_n 0, 1) := by decide +kernel
theorem dX0_takeDigits_37 : decode cX0_takeDigits 37 = .ok (.getfield 28, 3) := by decide +kernel
theorem dX0_takeDigits_40 : decode cX0_takeDigits 40 = .ok (.imul, 1) := by decide +kernel
theorem dX0_takeDigits_41 : decode cX0_takeDigits 41 = .ok (.aload_n 0, 1) := by decide +kernel
theorem dX0_takeDigits_42 : decode cX0_takeDigits 42 = .ok (.getfield 11, 3) := by decide +kernel
theorem dX0_takeDigits_45 : decode cX0_takeDigits 45 = .ok (.aload_n 0, 1) := by decide +kernel
theorem dX0_takeDigits_46 : decode cX0_takeDigits 46 = .ok (.getfield 25, 3) := by decide +kernel
theorem dX0_takeDigits_49 : decode cX0_takeDigits 49 = .ok (.iaload, 1) := by decide +kernel
theorem dX0_takeDigits_50 : decode cX0_takeDigits 50 = .ok (.iadd, 1) := by decide +kernel
theorem dX0_takeDigits_51 : decode cX0_takeDigits 51 = .ok (.bipush 48, 2) := by decide +kernel
theorem dX0_takeDigits_53 : decode cX0_takeDigits 53 = .ok (.isub, 1) := by decide +kernel
theorem dX0_takeDigits_54 : decode cX0_takeDigits 54 = .ok (.invokestatic 111, 3) := by decide +kernel
theorem dX0_takeDigits_57 : decode cX0_takeDigits 57 = .ok (.putfield 28, 3) := by decide +kernel
theorem dX0_takeDigits_60 : decode cX0_takeDigits 60 = .ok (.aload_n 0, 1) := by decide +kernel
theorem dX0_takeDigits_61 : decode cX0_takeDigits 61 = .ok (.dup, 1) := by decide +kernel
theorem dX0_takeDigits_62 : decode cX0_takeDigits 62 = .ok (.getfield 25, 3) := by decide +kernel
theorem dX0_takeDigits_65 : decode cX0_takeDigits 65 = .ok (.iconst 1, 1) := by decide +kernel
theorem dX0_takeDigits_66 : decode cX0_takeDigits 66 = .ok (.iadd, 1) := by decide +kernel
theorem dX0_takeDigits_67 : decode cX0_takeDigits 67 = .ok (.putfield 25, 3) := by decide +kernel
theorem dX0_takeDigits_70 : decode cX0_takeDigits 70 = .ok (.goto (-65), 3) := by decide +kernel
theorem dX0_takeDigits_73 : decode cX0_takeDigits 73 = .ok (.aload_n 0, 1) := by decide +kernel
theorem dX0_takeDigits_74 : decode cX0_takeDigits 74 = .ok (.getfield 11, 3) := by decide +kernel
theorem dX0_takeDigits_77 : decode cX0_takeDigits 77 = .ok (.aload_n 0, 1) := by decide +kernel
theorem dX0_takeDigits_78 : decode cX0_takeDigits 78 = .ok (.getfield 22, 3) := by decide +kernel
theorem dX0_takeDigits_81 : decode cX0_takeDigits 81 = .ok (.iaload, 1) := by decide +kernel
theorem dX0_takeDigits_82 : decode cX0_takeDigits 82 = .ok (.bipush 48, 2) := by decide +kernel
theorem dX0_takeDigits_84 : decode cX0_takeDigits 84 = .ok (.if_icmp .ne 20, 3) := by decide +kernel
theorem dX0_takeDigits_87 : decode cX0_takeDigits 87 = .ok (.aload_n 0, 1) := by decide +kernel
theorem dX0_takeDigits_88 : decode cX0_takeDigits 88 = .ok (.getfield 25, 3) := by decide +kernel
theorem dX0_takeDigits_91 : decode cX0_takeDigits 91 = .ok (.aload_n 0, 1) := by decide +kernel
theorem dX0_takeDigits_92 : decode cX0_takeDigits 92 = .ok (.getfield 22, 3) := by decide +kernel
theorem dX0_takeDigits_95 : decode cX0_takeDigits 95 = .ok (.isub, 1) := by decide +kernel
theorem dX0_takeDigits_96 : decode cX0_takeDigits 96 = .ok (.iconst 1, 1) := by decide +kernel
theorem dX0_takeDigits_97 : decode cX0_takeDigits 97 = .ok (.if_icmp .le 7, 3) := by decide +kernel
theorem dX0_takeDigits_100 : decode cX0_takeDigits 100 = .ok (.iconst 1, 1) := by decide +kernel
theorem dX0_takeDigits_101 : decode cX0_takeDigits 101 = .ok (.goto 4, 3) := by decide +kernel
theorem dX0_takeDigits_104 : decode cX0_takeDigits 104 = .ok (.iconst 0, 1) := by decide +kernel
theorem dX0_takeDigits_105 : decode cX0_takeDigits 105 = .ok (.istore_n 1, 1) := by decide +kernel
theorem dX0_takeDigits_106 : decode cX0_takeDigits 106 = .ok (.aload_n 0, 1) := by decide +kernel
theorem dX0_takeDigits_107 : decode cX0_takeDigits 107 = .ok (.iload_n 1, 1) := by decide +kernel
theorem dX0_takeDigits_108 : decode cX0_takeDigits 108 = .ok (.ifCond .ne 12, 3) := by decide +kernel
theorem dX0_takeDigits_111 : decode cX0_takeDigits 111 = .ok (.aload_n 0, 1) := by decide +kernel
theorem dX0_takeDigits_112 : decode cX0_takeDigits 112 = .ok (.getfield 28, 3) := by decide +kernel
theorem dX0_takeDigits_115 : decode cX0_takeDigits 115 = .ok (.bipush 100, 2) := by decide +kernel
theorem dX0_takeDigits_117 : decode cX0_takeDigits 117 = .ok (.if_icmp .ne 7, 3) := by decide +kernel
theorem dX0_takeDigits_120 : decode cX0_takeDigits 120 = .ok (.iconst 4, 1) := by decide +kernel
theorem dX0_takeDigits_121 : decode cX0_takeDigits 121 = .ok (.goto 4, 3) := by decide +kernel
theorem dX0_takeDigits_124 : decode cX0_takeDigits 124 = .ok (.iconst 2, 1) := by decide +kernel
theorem dX0_takeDigits_125 : decode cX0_takeDigits 125 = .ok (.putfield 19, 3) := by decide +kernel
theorem dX0_takeDigits_128 : decode cX0_takeDigits 128 = .ok (.return_, 1) := by decide +kernel
theorem dX0_isWordSign_0 : decode cX0_isWordSign 0 = .ok (.iload_n 0, 1) := by decide +kernel
theorem dX0_isWordSign_1 : decode cX0_isWordSign 1 = .ok (.bipush 97, 2) := by decide +kernel
theorem dX0_isWordSign_3 : decode cX0_isWordSign 3 = .ok (.if_icmp .lt 9, 3) := by decide +kernel
theorem dX0_isWordSign_6 : decode cX0_isWordSign 6 = .ok (.iload_n 0, 1) := by decide +kernel
theorem dX0_isWordSign_7 : decode cX0_isWordSign 7 = .ok (.bipush 122, 2) := by decide +kernel
theorem dX0_isWordSign_9 : decode cX0_isWordSign 9 = .ok (.if_icmp .le 9, 3) := by decide +kernel
theorem dX0_isWordSign_12 : decode cX0_isWordSign 12 = .ok (.iload_n 0, 1) := by decide +kernel
theorem dX0_isWordSign_13 : decode cX0_isWordSign 13 = .ok (.bipush 46, 2) := by decide +kernel
theorem dX0_isWordSign_15 : decode cX0_isWordSign 15 = .ok (.if_icmp .ne 7, 3) := by decide +kernel
theorem dX0_isWordSign_18 : decode cX0_isWordSign 18 = .ok (.iconst 1, 1) := by decide +kernel
theorem dX0_isWordSign_19 : decode cX0_isWordSign 19 = .ok (.goto 4, 3) := by decide +kernel
theorem dX0_isWordSign_22 : decode cX0_isWordSign 22 = .ok (.iconst 0, 1) := by decide +kernel
theorem dX0_isWordSign_23 : decode cX0_isWordSign 23 = .ok (.ireturn, 1) := by decide +kernel
theorem dX0_isDigit_0 : decode cX0_isDigit 0 = .ok (.iload_n 0, 1) := by decide +kernel
theorem dX0_isDigit_1 : decode cX0_isDigit 1 = .ok (.bipush 48, 2) := by decide +kernel
theorem dX0_isDigit_3 : decode cX0_isDigit 3 = .ok (.if_icmp .lt 13, 3) := by decide +kernel
theorem dX0_isDigit_6 : decode cX0_isDigit 6 = .ok (.iload_n 0, 1) := by decide +kernel
theorem dX0_isDigit_7 : decode cX0_isDigit 7 = .ok (.bipush 57, 2) := by decide +kernel
theorem dX0_isDigit_9 : decode cX0_isDigit 9 = .ok (.if_icmp .gt 7, 3) := by decide +kernel
theorem dX0_isDigit_12 : decode cX0_isDigit 12 = .ok (.iconst 1, 1) := by decide +kernel
theorem dX0_isDigit_13 : decode cX0_isDigit 13 = .ok (.goto 4, 3) := by decide +kernel
theorem dX0_isDigit_16 : decode cX0_isDigit 16 = .ok (.iconst 0, 1) := by decide +kernel
theorem dX0_isDigit_17 : decode cX0_isDigit 17 = .ok (.ireturn, 1) := by decide +kernel
