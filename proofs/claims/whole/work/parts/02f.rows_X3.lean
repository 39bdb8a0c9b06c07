theorem dX3_init_0 : decode cX3_init 0 = .ok (.aload_n 0, 1) := by decide +kernel
theorem dX3_init_1 : decode cX3_init 1 = .ok (.invokespecial 3, 3) := by decide +kernel
theorem dX3_init_4 : decode cX3_init 4 = .ok (.aload_n 0, 1) := by decide +kernel
theorem dX3_init_5 : decode cX3_init 5 = .ok (.bipush 48, 2) := by decide +kernel
theorem dX3_init_7 : decode cX3_init 7 = .ok (.newarray .int, 2) := by decide +kernel
theorem dX3_init_9 : decode cX3_init 9 = .ok (.putfield 9, 3) := by decide +kernel
theorem dX3_init_12 : decode cX3_init 12 = .ok (.aload_n 0, 1) := by decide +kernel
theorem dX3_init_13 : decode cX3_init 13 = .ok (.bipush 48, 2) := by decide +kernel
theorem dX3_init_15 : decode cX3_init 15 = .ok (.newarray .int, 2) := by decide +kernel
theorem dX3_init_17 : decode cX3_init 17 = .ok (.putfield 15, 3) := by decide +kernel
theorem dX3_init_20 : decode cX3_init 20 = .ok (.aload_n 0, 1) := by decide +kernel
theorem dX3_init_21 : decode cX3_init 21 = .ok (.bipush 8, 2) := by decide +kernel
theorem dX3_init_23 : decode cX3_init 23 = .ok (.newarray .int, 2) := by decide +kernel
theorem dX3_init_25 : decode cX3_init 25 = .ok (.putfield 18, 3) := by decide +kernel
theorem dX3_init_28 : decode cX3_init 28 = .ok (.aload_n 0, 1) := by decide +kernel
theorem dX3_init_29 : decode cX3_init 29 = .ok (.iconst 0, 1) := by decide +kernel
theorem dX3_init_30 : decode cX3_init 30 = .ok (.putfield 21, 3) := by decide +kernel
theorem dX3_init_33 : decode cX3_init 33 = .ok (.aload_n 0, 1) := by decide +kernel
theorem dX3_init_34 : decode cX3_init 34 = .ok (.iconst 0, 1) := by decide +kernel
theorem dX3_init_35 : decode cX3_init 35 = .ok (.putfield 25, 3) := by decide +kernel
theorem dX3_init_38 : decode cX3_init 38 = .ok (.aload_n 0, 1) := by decide +kernel
theorem dX3_init_39 : decode cX3_init 39 = .ok (.bipush 6, 2) := by decide +kernel
theorem dX3_init_41 : decode cX3_init 41 = .ok (.newarray .int, 2) := by decide +kernel
theorem dX3_init_43 : decode cX3_init 43 = .ok (.putfield 28, 3) := by decide +kernel
theorem dX3_init_46 : decode cX3_init 46 = .ok (.aload_n 0, 1) := by decide +kernel
theorem dX3_init_47 : decode cX3_init 47 = .ok (.iconst 0, 1) := by decide +kernel
theorem dX3_init_48 : decode cX3_init 48 = .ok (.putfield 31, 3) := by decide +kernel
theorem dX3_init_51 : decode cX3_init 51 = .ok (.aload_n 0, 1) := by decide +kernel
theorem dX3_init_52 : decode cX3_init 52 = .ok (.iconst 0, 1) := by decide +kernel
theorem dX3_init_53 : decode cX3_init 53 = .ok (.putfield 35, 3) := by decide +kernel
theorem dX3_init_56 : decode cX3_init 56 = .ok (.aload_n 0, 1) := by decide +kernel
theorem dX3_init_57 : decode cX3_init 57 = .ok (.iconst 0, 1) := by decide +kernel
theorem dX3_init_58 : decode cX3_init 58 = .ok (.putfield 38, 3) := by decide +kernel
theorem dX3_init_61 : decode cX3_init 61 = .ok (.aload_n 0, 1) := by decide +kernel
theorem dX3_init_62 : decode cX3_init 62 = .ok (.iconst 0, 1) := by decide +kernel
theorem dX3_init_63 : decode cX3_init 63 = .ok (.putfield 41, 3) := by decide +kernel
theorem dX3_init_66 : decode cX3_init 66 = .ok (.aload_n 0, 1) := by decide +kernel
theorem dX3_init_67 : decode cX3_init 67 = .ok (.bipush 8, 2) := by decide +kernel
theorem dX3_init_69 : decode cX3_init 69 = .ok (.newarray .int, 2) := by decide +kernel
theorem dX3_init_71 : decode cX3_init 71 = .ok (.putfield 44, 3) := by decide +kernel
theorem dX3_init_74 : decode cX3_init 74 = .ok (.return_, 1) := by decide +kernel
theorem dX3_survey_0 : decode cX3_survey 0 = .ok (.iconst 0, 1) := by decide +kernel
theorem dX3_survey_1 : decode cX3_survey 1 = .ok (.istore 4, 2) := by decide +kernel
theorem dX3_survey_3 : decode cX3_survey 3 = .ok (.iload 4, 2) := by decide +kernel
theorem dX3_survey_5 : decode cX3_survey 5 = .ok (.bipush 8, 2) := by decide +kernel
theorem dX3_survey_7 : decode cX3_survey 7 = .ok (.if_icmp .ge 148, 3) := by decide +kernel
theorem dX3_survey_10 : decode cX3_survey 10 = .ok (.aload_n 2, 1) := by decide +kernel
theorem dX3_survey_11 : decode cX3_survey 11 = .ok (.iload_n 3, 1) := by decide +kernel
theorem dX3_survey_12 : decode cX3_survey 12 = .ok (.iload 4, 2) := by decide +kernel
theorem dX3_survey_14 : decode cX3_survey 14 = .ok (.invokevirtual 47, 3) := by decide +kernel
theorem dX3_survey_17 : decode cX3_survey 17 = .ok (.istore 5, 2) := by decide +kernel
theorem dX3_survey_19 : decode cX3_survey 19 = .ok (.iconst 0, 1) := by decide +kernel
theorem dX3_survey_20 : decode cX3_survey 20 = .ok (.istore 6, 2) := by decide +kernel
theorem dX3_survey_22 : decode cX3_survey 22 = .ok (.iconst 5, 1) := by decide +kernel
theorem dX3_survey_23 : decode cX3_survey 23 = .ok (.istore 7, 2) := by decide +kernel
theorem dX3_survey_25 : decode cX3_survey 25 = .ok (.iload 7, 2) := by decide +kernel
theorem dX3_survey_27 : decode cX3_survey 27 = .ok (.ifCond .lt 122, 3) := by decide +kernel
theorem dX3_survey_30 : decode cX3_survey 30 = .ok (.iload 4, 2) := by decide +kernel
theorem dX3_survey_32 : decode cX3_survey 32 = .ok (.iload 7, 2) := by decide +kernel
theorem dX3_survey_34 : decode cX3_survey 34 = .ok (.invokestatic 53, 3) := by decide +kernel
theorem dX3_survey_37 : decode cX3_survey 37 = .ok (.istore 8, 2) := by decide +kernel
theorem dX3_survey_39 : decode cX3_survey 39 = .ok (.aload_n 1, 1) := by decide +kernel
theorem dX3_survey_40 : decode cX3_survey 40 = .ok (.iload 8, 2) := by decide +kernel
theorem dX3_survey_42 : decode cX3_survey 42 = .ok (.invokevirtual 56, 3) := by decide +kernel
theorem dX3_survey_45 : decode cX3_survey 45 = .ok (.ifCond .eq 17, 3) := by decide +kernel
theorem dX3_survey_48 : decode cX3_survey 48 = .ok (.aload_n 2, 1) := by decide +kernel
theorem dX3_survey_49 : decode cX3_survey 49 = .ok (.iload_n 3, 1) := by decide +kernel
theorem dX3_survey_50 : decode cX3_survey 50 = .ok (.iload 8, 2) := by decide +kernel
theorem dX3_survey_52 : decode cX3_survey 52 = .ok (.invokevirtual 62, 3) := by decide +kernel
theorem dX3_survey_55 : decode cX3_survey 55 = .ok (.ifCond .ne 7, 3) := by decide +kernel
theorem dX3_survey_58 : decode cX3_survey 58 = .ok (.iconst 1, 1) := by decide +kernel
theorem dX3_survey_59 : decode cX3_survey 59 = .ok (.goto 4, 3) := by decide +kernel
theorem dX3_survey_62 : decode cX3_survey 62 = .ok (.iconst 0, 1) := by decide +kernel
theorem dX3_survey_63 : decode cX3_survey 63 = .ok (.istore 9, 2) := by decide +kernel
theorem dX3_survey_65 : decode cX3_survey 65 = .ok (.aload_n 1, 1) := by decide +kernel
theorem dX3_survey_66 : decode cX3_survey 66 = .ok (.iload 8, 2) := by decide +kernel
theorem dX3_survey_68 : decode cX3_survey 68 = .ok (.invokevirtual 66, 3) := by decide +kernel
theorem dX3_survey_71 : decode cX3_survey 71 = .ok (.iload 5, 2) := by decide +kernel
theorem dX3_survey_73 : decode cX3_survey 73 = .ok (.iadd, 1) := by decide +kernel
theorem dX3_survey_74 : decode cX3_survey 74 = .ok (.istore 10, 2) := by decide +kernel
theorem dX3_survey_76 : decode cX3_survey 76 = .ok (.aload_n 1, 1) := by decide +kernel
theorem dX3_survey_77 : decode cX3_survey 77 = .ok (.iload 8, 2) := by decide +kernel
theorem dX3_survey_79 : decode cX3_survey 79 = .ok (.invokevirtual 70, 3) := by decide +kernel
theorem dX3_survey_82 : decode cX3_survey 82 = .ok (.istore 11, 2) := by decide +kernel
theorem dX3_survey_84 : decode cX3_survey 84 = .ok (.aload_n 0, 1) := by decide +kernel
theorem dX3_survey_85 : decode cX3_survey 85 = .ok (.getfield 15, 3) := by decide +kernel
theorem dX3_survey_88 : decode cX3_survey 88 = .ok (.iload 8, 2) := by decide +kernel
theorem dX3_survey_90 : decode cX3_survey 90 = .ok (.iload 6, 2) := by decide +kernel
theorem dX3_survey_92 : decode cX3_survey 92 = .ok (.iastore, 1) := by decide +kernel
theorem dX3_survey_93 : decode cX3_survey 93 = .ok (.aload_n 0, 1) := by decide +kernel
theorem dX3_survey_94 : decode cX3_survey 94 = .ok (.getfield 9, 3) := by decide +kernel
theorem dX3_survey_97 : decode cX3_survey 97 = .ok (.iload 8, 2) := by decide +kernel
theorem dX3_survey_99 : decode cX3_survey 99 = .ok (.iload 11, 2) := by decide +kernel
theorem dX3_survey_101 : decode cX3_survey 101 = .ok (.ifCond .ne 7, 3) := by decide +kernel
theorem dX3_survey_104 : decode cX3_survey 104 = .ok (.iconst (-1), 1) := by decide +kernel
theorem dX3_survey_105 : decode cX3_survey 105 = .ok (.goto 17, 3) := by decide +kernel
theorem dX3_survey_108 : decode cX3_survey 108 = .ok (.iload 9, 2) := by decide +kernel
theorem dX3_survey_110 : decode cX3_survey 110 = .ok (.ifCond .eq 10, 3) := by decide +kernel
theorem dX3_survey_113 : decode cX3_survey 113 = .ok (.iload 10, 2) := by decide +kernel
theorem dX3_survey_115 : decode cX3_survey 115 = .ok (.iconst 2, 1) := by decide +kernel
theorem dX3_survey_116 : decode cX3_survey 116 = .ok (.idiv, 1) := by decide +kernel
theorem dX3_survey_117 : decode cX3_survey 117 = .ok (.goto 5, 3) := by decide +kernel
theorem dX3_survey_120 : decode cX3_survey 120 = .ok (.iload 10, 2) := by decide +kernel
theorem dX3_survey_122 : decode cX3_survey 122 = .ok (.iastore, 1) := by decide +kernel
theorem dX3_survey_123 : decode cX3_survey 123 = .ok (.iload 11, 2) := by decide +kernel
theorem dX3_survey_125 : decode cX3_survey 125 = .ok (.ifCond .eq 18, 3) := by decide +kernel
theorem dX3_survey_128 : decode cX3_survey 128 = .ok (.iload 6, 2) := by decide +kernel
theorem dX3_survey_130 : decode cX3_survey 130 = .ok (.iload 9, 2) := by decide +kernel
theorem dX3_survey_132 : decode cX3_survey 132 = .ok (.ifCond .eq 7, 3) := by decide +kernel
theorem dX3_survey_135 : decode cX3_survey 135 = .ok (.iconst 2, 1) := by decide +kernel
theorem dX3_survey_136 : decode cX3_survey 136 = .ok (.goto 4, 3) := by decide +kernel
theorem dX3_survey_139 : decode cX3_survey 139 = .ok (.iconst 1, 1) := by decide +kernel
theorem dX3_survey_140 : decode cX3_survey 140 = .ok (.iadd, 1) := by decide +kernel
theorem dX3_survey_141 : decode cX3_survey 141 = .ok (.istore 6, 2) := by decide +kernel
theorem dX3_survey_143 : decode cX3_survey 143 = .ok (.iinc 7 (-1), 3) := by decide +kernel
theorem dX3_survey_146 : decode cX3_survey 146 = .ok (.goto (-121), 3) := by decide +kernel
theorem dX3_survey_149 : decode cX3_survey 149 = .ok (.iinc 4 1, 3) := by decide +kernel
theorem dX3_survey_152 : decode cX3_survey 152 = .ok (.goto (-149), 3) := by decide +kernel
theorem dX3_survey_155 : decode cX3_survey 155 = .ok (.return_, 1) := by decide +kernel
theorem dX3_walkAll_0 : decode cX3_walkAll 0 = .ok (.aload_n 0, 1) := by decide +kernel
theorem dX3_walkAll_1 : decode cX3_walkAll 1 = .ok (.iload_n 1, 1) := by decide +kernel
theorem dX3_walkAll_2 : decode cX3_walkAll 2 = .ok (.putfield 25, 3) := by decide +kernel
theorem dX3_walkAll_5 : decode cX3_walkAll 5 = .ok (.aload_n 0, 1) := by decide +kernel
theorem dX3_walkAll_6 : decode cX3_walkAll 6 = .ok (.iconst 0, 1) := by decide +kernel
theorem dX3_walkAll_7 : decode cX3_walkAll 7 = .ok (.putfield 35, 3) := by decide +kernel
theorem dX3_walkAll_10 : decode cX3_walkAll 10 = .ok (.aload_n 0, 1) := by decide +kernel
theorem dX3_walkAll_11 : decode cX3_walkAll 11 = .ok (.iconst 0, 1) := by decide +kernel
theorem dX3_walkAll_12 : decode cX3_walkAll 12 = .ok (.putfield 31, 3) := by decide +kernel
theorem dX3_walkAll_15 : decode cX3_walkAll 15 = .ok (.iconst 0, 1) := by decide +kernel
theorem dX3_walkAll_16 : decode cX3_walkAll 16 = .ok (.istore_n 2, 1) := by decide +kernel
theorem dX3_walkAll_17 : decode cX3_walkAll 17 = .ok (.iload_n 2, 1) := by decide +kernel
theorem dX3_walkAll_18 : decode cX3_walkAll 18 = .ok (.bipush 8, 2) := by decide +kernel
theorem dX3_walkAll_20 : decode cX3_walkAll 20 = .ok (.if_icmp .ge 22, 3) := by decide +kernel
theorem dX3_walkAll_23 : decode cX3_walkAll 23 = .ok (.aload_n 0, 1) := by decide +kernel
theorem dX3_walkAll_24 : decode cX3_walkAll 24 = .ok (.iload_n 2, 1) := by decide +kernel
theorem dX3_walkAll_25 : decode cX3_walkAll 25 = .ok (.putfield 21, 3) := by decide +kernel
theorem dX3_walkAll_28 : decode cX3_walkAll 28 = .ok (.aload_n 0, 1) := by decide +kernel
theorem dX3_walkAll_29 : decode cX3_walkAll 29 = .ok (.iload_n 2, 1) := by decide +kernel
theorem dX3_walkAll_30 : decode cX3_walkAll 30 = .ok (.iconst 5, 1) := by decide +kernel
theorem dX3_walkAll_31 : decode cX3_walkAll 31 = .ok (.iconst 0, 1) := by decide +kernel
theorem dX3_walkAll_32 : decode cX3_walkAll 32 = .ok (.iconst 0, 1) := by decide +kernel
theorem dX3_walkAll_33 : decode cX3_walkAll 33 = .ok (.invokevirtual 73, 3) := by decide +kernel
theorem dX3_walkAll_36 : decode cX3_walkAll 36 = .ok (.iinc 2 1, 3) := by decide +kernel
theorem dX3_walkAll_39 : decode cX3_walkAll 39 = .ok (.goto (-22), 3) := by decide +kernel
theorem dX3_walkAll_42 : decode cX3_walkAll 42 = .ok (.return_, 1) := by decide +kernel
theorem dX3_walkFrom_0 : decode cX3_walkFrom 0 = .ok (.iconst 0, 1) := by decide +kernel
theorem dX3_walkFrom_1 : decode cX3_walkFrom 1 = .ok (.istore 5, 2) := by decide +kernel
theorem dX3_walkFrom_3 : decode cX3_walkFrom 3 = .ok (.iload 5, 2) := by decide +kernel
theorem dX3_walkFrom_5 : decode cX3_walkFrom 5 = .ok (.iload_n 2, 1) := by decide +kernel
theorem dX3_walkFrom_6 : decode cX3_walkFrom 6 = .ok (.if_icmp .gt 116, 3) := by decide +kernel
theorem dX3_walkFrom_9 : decode cX3_walkFrom 9 = .ok (.iload_n 1, 1) := by decide +kernel
theorem dX3_walkFrom_10 : decode cX3_walkFrom 10 = .ok (.iload 5, 2) := by decide +kernel
theorem dX3_walkFrom_12 : decode cX3_walkFrom 12 = .ok (.invokestatic 53, 3) := by decide +kernel
theorem dX3_walkFrom_15 : decode cX3_walkFrom 15 = .ok (.istore 6, 2) := by decide +kernel
theorem dX3_walkFrom_17 : decode cX3_walkFrom 17 = .ok (.aload_n 0, 1) := by decide +kernel
theorem dX3_walkFrom_18 : decode cX3_walkFrom 18 = .ok (.getfield 9, 3) := by decide +kernel
theorem dX3_walkFrom_21 : decode cX3_walkFrom 21 = .ok (.iload 6, 2) := by decide +kernel
theorem dX3_walkFrom_23 : decode cX3_walkFrom 23 = .ok (.iaload, 1) := by decide +kernel
theorem dX3_walkFrom_24 : decode cX3_walkFrom 24 = .ok (.iconst (-1), 1) := by decide +kernel
theorem dX3_walkFrom_25 : decode cX3_walkFrom 25 = .ok (.if_icmp .ne 6, 3) := by decide +kernel
theorem dX3_walkFrom_28 : decode cX3_walkFrom 28 = .ok (.goto 88, 3) := by decide +kernel
theorem dX3_walkFrom_31 : decode cX3_walkFrom 31 = .ok (.aload_n 0, 1) := by decide +kernel
theorem dX3_walkFrom_32 : decode cX3_walkFrom 32 = .ok (.getfield 18, 3) := by decide +kernel
theorem dX3_walkFrom_35 : decode cX3_walkFrom 35 = .ok (.iload_n 1, 1) := by decide +kernel
theorem dX3_walkFrom_36 : decode cX3_walkFrom 36 = .ok (.iload 5, 2) := by decide +kernel
theorem dX3_walkFrom_38 : decode cX3_walkFrom 38 = .ok (.iastore, 1) := by decide +kernel
theorem dX3_walkFrom_39 : decode cX3_walkFrom 39 = .ok (.iload_n 1, 1) := by decide +kernel
theorem dX3_walkFrom_40 : decode cX3_walkFrom 40 = .ok (.aload_n 0, 1) := by decide +kernel
theorem dX3_walkFrom_41 : decode cX3_walkFrom 41 = .ok (.getfield 21, 3) := by decide +kernel
theorem dX3_walkFrom_44 : decode cX3_walkFrom 44 = .ok (.if_icmp .ne 7, 3) := by decide +kernel
theorem dX3_walkFrom_47 : decode cX3_walkFrom 47 = .ok (.iload_n 3, 1) := by decide +kernel
theorem dX3_walkFrom_48 : decode cX3_walkFrom 48 = .ok (.goto 15, 3) := by decide +kernel
theorem dX3_walkFrom_51 : decode cX3_walkFrom 51 = .ok (.iload_n 3, 1) := by decide +kernel
theorem dX3_walkFrom_52 : decode cX3_walkFrom 52 = .ok (.aload_n 0, 1) := by decide +kernel
theorem dX3_walkFrom_53 : decode cX3_walkFrom 53 = .ok (.iload_n 1, 1) := by decide +kernel
theorem dX3_walkFrom_54 : decode cX3_walkFrom 54 = .ok (.iconst 1, 1) := by decide +kernel
theorem dX3_walkFrom_55 : decode cX3_walkFrom 55 = .ok (.isub, 1) := by decide +kernel
theorem dX3_walkFrom_56 : decode cX3_walkFrom 56 = .ok (.iload_n 2, 1) := by decide +kernel
theorem dX3_walkFrom_57 : decode cX3_walkFrom 57 = .ok (.iload 5, 2) := by decide +kernel
theorem dX3_walkFrom_59 : decode cX3_walkFrom 59 = .ok (.invokevirtual 77, 3) := by decide +kernel
theorem dX3_walkFrom_62 : decode cX3_walkFrom 62 = .ok (.iadd, 1) := by decide +kernel
theorem dX3_walkFrom_63 : decode cX3_walkFrom 63 = .ok (.istore 7, 2) := by decide +kernel
theorem dX3_walkFrom_65 : decode cX3_walkFrom 65 = .ok (.iload 4, 2) := by decide +kernel
theorem dX3_walkFrom_67 : decode cX3_walkFrom 67 = .ok (.aload_n 0, 1) := by decide +kernel
theorem dX3_walkFrom_68 : decode cX3_walkFrom 68 = .ok (.getfield 9, 3) := by decide +kernel
theorem dX3_walkFrom_71 : decode cX3_walkFrom 71 = .ok (.iload 6, 2) := by decide +kernel
theorem dX3_walkFrom_73 : decode cX3_walkFrom 73 = .ok (.iaload, 1) := by decide +kernel
theorem dX3_walkFrom_74 : decode cX3_walkFrom 74 = .ok (.iadd, 1) := by decide +kernel
theorem dX3_walkFrom_75 : decode cX3_walkFrom 75 = .ok (.istore 8, 2) := by decide +kernel
theorem dX3_walkFrom_77 : decode cX3_walkFrom 77 = .ok (.iload_n 1, 1) := by decide +kernel
theorem dX3_walkFrom_78 : decode cX3_walkFrom 78 = .ok (.bipush 7, 2) := by decide +kernel
theorem dX3_walkFrom_80 : decode cX3_walkFrom 80 = .ok (.if_icmp .ne 23, 3) := by decide +kernel
theorem dX3_walkFrom_83 : decode cX3_walkFrom 83 = .ok (.aload_n 0, 1) := by decide +kernel
theorem dX3_walkFrom_84 : decode cX3_walkFrom 84 = .ok (.iload 7, 2) := by decide +kernel
theorem dX3_walkFrom_86 : decode cX3_walkFrom 86 = .ok (.aload_n 0, 1) := by decide +kernel
theorem dX3_walkFrom_87 : decode cX3_walkFrom 87 = .ok (.iload_n 1, 1) := by decide +kernel
theorem dX3_walkFrom_88 : decode cX3_walkFrom 88 = .ok (.iload 5, 2) := by decide +kernel
theorem dX3_walkFrom_90 : decode cX3_walkFrom 90 = .ok (.iconst 0, 1) := by decide +kernel
theorem dX3_walkFrom_91 : decode cX3_walkFrom 91 = .ok (.invokevirtual 77, 3) := by decide +kernel
theorem dX3_walkFrom_94 : decode cX3_walkFrom 94 = .ok (.iadd, 1) := by decide +kernel
theorem dX3_walkFrom_95 : decode cX3_walkFrom 95 = .ok (.iload 8, 2) := by decide +kernel
theorem dX3_walkFrom_97 : decode cX3_walkFrom 97 = .ok (.invokevirtual 81, 3) := by decide +kernel
theorem dX3_walkFrom_100 : decode cX3_walkFrom 100 = .ok (.goto 16, 3) := by decide +kernel
theorem dX3_walkFrom_103 : decode cX3_walkFrom 103 = .ok (.aload_n 0, 1) := by decide +kernel
theorem dX3_walkFrom_104 : decode cX3_walkFrom 104 = .ok (.iload_n 1, 1) := by decide +kernel
theorem dX3_walkFrom_105 : decode cX3_walkFrom 105 = .ok (.iconst 1, 1) := by decide +kernel
theorem dX3_walkFrom_106 : decode cX3_walkFrom 106 = .ok (.iadd, 1) := by decide +kernel
theorem dX3_walkFrom_107 : decode cX3_walkFrom 107 = .ok (.iload 5, 2) := by decide +kernel
theorem dX3_walkFrom_109 : decode cX3_walkFrom 109 = .ok (.iload 7, 2) := by decide +kernel
theorem dX3_walkFrom_111 : decode cX3_walkFrom 111 = .ok (.iload 8, 2) := by decide +kernel
theorem dX3_walkFrom_113 : decode cX3_walkFrom 113 = .ok (.invokevirtual 73, 3) := by decide +kernel
theorem dX3_walkFrom_116 : decode cX3_walkFrom 116 = .ok (.iinc 5 1, 3) := by decide +kernel
theorem dX3_walkFrom_119 : decode cX3_walkFrom 119 = .ok (.goto (-116), 3) := by decide +kernel
theorem dX3_walkFrom_122 : decode cX3_walkFrom 122 = .ok (.return_, 1) := by decide +kernel
theorem dX3_driveOf_0 : decode cX3_driveOf 0 = .ok (.aload_n 0, 1) := by decide +kernel
theorem dX3_driveOf_1 : decode cX3_driveOf 1 = .ok (.getfield 15, 3) := by decide +kernel
theorem dX3_driveOf_4 : decode cX3_driveOf 4 = .ok (.iload_n 1, 1) := by decide +kernel
theorem dX3_driveOf_5 : decode cX3_driveOf 5 = .ok (.iload_n 2, 1) := by decide +kernel
theorem dX3_driveOf_6 : decode cX3_driveOf 6 = .ok (.invokestatic 53, 3) := by decide +kernel
theorem dX3_driveOf_9 : decode cX3_driveOf 9 = .ok (.iaload, 1) := by decide +kernel
theorem dX3_driveOf_10 : decode cX3_driveOf 10 = .ok (.iconst 1, 1) := by decide +kernel
theorem dX3_driveOf_11 : decode cX3_driveOf 11 = .ok (.iload_n 2, 1) := by decide +kernel
theorem dX3_driveOf_12 : decode cX3_driveOf 12 = .ok (.iadd, 1) := by decide +kernel
theorem dX3_driveOf_13 : decode cX3_driveOf 13 = .ok (.iload_n 3, 1) := by decide +kernel
theorem dX3_driveOf_14 : decode cX3_driveOf 14 = .ok (.isub, 1) := by decide +kernel
theorem dX3_driveOf_15 : decode cX3_driveOf 15 = .ok (.imul, 1) := by decide +kernel
theorem dX3_driveOf_16 : decode cX3_driveOf 16 = .ok (.ireturn, 1) := by decide +kernel
theorem dX3_meetWay_0 : decode cX3_meetWay 0 = .ok (.sipush 9999, 3) := by decide +kernel
theorem dX3_meetWay_3 : decode cX3_meetWay 3 = .ok (.istore_n 3, 1) := by decide +kernel
theorem dX3_meetWay_4 : decode cX3_meetWay 4 = .ok (.iload_n 1, 1) := by decide +kernel
theorem dX3_meetWay_5 : decode cX3_meetWay 5 = .ok (.ifCond .le 16, 3) := by decide +kernel
theorem dX3_meetWay_8 : decode cX3_meetWay 8 = .ok (.sipush 9999, 3) := by decide +kernel
theorem dX3_meetWay_11 : decode cX3_meetWay 11 = .ok (.bipush 100, 2) := by decide +kernel
theorem dX3_meetWay_13 : decode cX3_meetWay 13 = .ok (.iload_n 2, 1) := by decide +kernel
theorem dX3_meetWay_14 : decode cX3_meetWay 14 = .ok (.imul, 1) := by decide +kernel
theorem dX3_meetWay_15 : decode cX3_meetWay 15 = .ok (.iload_n 1, 1) := by decide +kernel
theorem dX3_meetWay_16 : decode cX3_meetWay 16 = .ok (.idiv, 1) := by decide +kernel
theorem dX3_meetWay_17 : decode cX3_meetWay 17 = .ok (.invokestatic 85, 3) := by decide +kernel
theorem dX3_meetWay_20 : decode cX3_meetWay 20 = .ok (.istore_n 3, 1) := by decide +kernel
theorem dX3_meetWay_21 : decode cX3_meetWay 21 = .ok (.iload_n 3, 1) := by decide +kernel
theorem dX3_meetWay_22 : decode cX3_meetWay 22 = .ok (.aload_n 0, 1) := by decide +kernel
theorem dX3_meetWay_23 : decode cX3_meetWay 23 = .ok (.getfield 25, 3) := by decide +kernel
theorem dX3_meetWay_26 : decode cX3_meetWay 26 = .ok (.if_icmp .ge 13, 3) := by decide +kernel
theorem dX3_meetWay_29 : decode cX3_meetWay 29 = .ok (.aload_n 0, 1) := by decide +kernel
theorem dX3_meetWay_30 : decode cX3_meetWay 30 = .ok (.dup, 1) := by decide +kernel
theorem dX3_meetWay_31 : decode cX3_meetWay 31 = .ok (.getfield 35, 3) := by decide +kernel
theorem dX3_meetWay_34 : decode cX3_meetWay 34 = .ok (.iconst 1, 1) := by decide +kernel
theorem dX3_meetWay_35 : decode cX3_meetWay 35 = .ok (.iadd, 1) := by decide +kernel
theorem dX3_meetWay_36 : decode cX3_meetWay 36 = .ok (.putfield 35, 3) := by decide +kernel
theorem dX3_meetWay_39 : decode cX3_meetWay 39 = .ok (.aload_n 0, 1) := by decide +kernel
theorem dX3_meetWay_40 : decode cX3_meetWay 40 = .ok (.getfield 31, 3) := by decide +kernel
theorem dX3_meetWay_43 : decode cX3_meetWay 43 = .ok (.ifCond .eq 12, 3) := by decide +kernel
theorem dX3_meetWay_46 : decode cX3_meetWay 46 = .ok (.iload_n 3, 1) := by decide +kernel
theorem dX3_meetWay_47 : decode cX3_meetWay 47 = .ok (.aload_n 0, 1) := by decide +kernel
theorem dX3_meetWay_48 : decode cX3_meetWay 48 = .ok (.getfield 38, 3) := by decide +kernel
theorem dX3_meetWay_51 : decode cX3_meetWay 51 = .ok (.if_icmp .lt 4, 3) := by decide +kernel
theorem dX3_meetWay_54 : decode cX3_meetWay 54 = .ok (.return_, 1) := by decide +kernel
theorem dX3_meetWay_55 : decode cX3_meetWay 55 = .ok (.aload_n 0, 1) := by decide +kernel
theorem dX3_meetWay_56 : decode cX3_meetWay 56 = .ok (.iconst 1, 1) := by decide +kernel
theorem dX3_meetWay_57 : decode cX3_meetWay 57 = .ok (.putfield 31, 3) := by decide +kernel
theorem dX3_meetWay_60 : decode cX3_meetWay 60 = .ok (.aload_n 0, 1) := by decide +kernel
theorem dX3_meetWay_61 : decode cX3_meetWay 61 = .ok (.iload_n 3, 1) := by decide +kernel
theorem dX3_meetWay_62 : decode cX3_meetWay 62 = .ok (.putfield 38, 3) := by decide +kernel
theorem dX3_meetWay_65 : decode cX3_meetWay 65 = .ok (.aload_n 0, 1) := by decide +kernel
theorem dX3_meetWay_66 : decode cX3_meetWay 66 = .ok (.aload_n 0, 1) := by decide +kernel
theorem dX3_meetWay_67 : decode cX3_meetWay 67 = .ok (.getfield 21, 3) := by decide +kernel
theorem dX3_meetWay_70 : decode cX3_meetWay 70 = .ok (.putfield 41, 3) := by decide +kernel
theorem dX3_meetWay_73 : decode cX3_meetWay 73 = .ok (.aload_n 0, 1) := by decide +kernel
theorem dX3_meetWay_74 : decode cX3_meetWay 74 = .ok (.getfield 18, 3) := by decide +kernel
theorem dX3_meetWay_77 : decode cX3_meetWay 77 = .ok (.iconst 0, 1) := by decide +kernel
theorem dX3_meetWay_78 : decode cX3_meetWay 78 = .ok (.aload_n 0, 1) := by decide +kernel
theorem dX3_meetWay_79 : decode cX3_meetWay 79 = .ok (.getfield 44, 3) := by decide +kernel
theorem dX3_meetWay_82 : decode cX3_meetWay 82 = .ok (.iconst 0, 1) := by decide +kernel
theorem dX3_meetWay_83 : decode cX3_meetWay 83 = .ok (.bipush 8, 2) := by decide +kernel
theorem dX3_meetWay_85 : decode cX3_meetWay 85 = .ok (.invokestatic 90, 3) := by decide +kernel
theorem dX3_meetWay_88 : decode cX3_meetWay 88 = .ok (.return_, 1) := by decide +kernel
theorem dX3_allReach_0 : decode cX3_allReach 0 = .ok (.bipush 7, 2) := by decide +kernel
theorem dX3_allReach_2 : decode cX3_allReach 2 = .ok (.istore_n 2, 1) := by decide +kernel
theorem dX3_allReach_3 : decode cX3_allReach 3 = .ok (.iload_n 2, 1) := by decide +kernel
theorem dX3_allReach_4 : decode cX3_allReach 4 = .ok (.ifCond .lt 121, 3) := by decide +kernel
theorem dX3_allReach_7 : decode cX3_allReach 7 = .ok (.iconst 5, 1) := by decide +kernel
theorem dX3_allReach_8 : decode cX3_allReach 8 = .ok (.istore_n 3, 1) := by decide +kernel
theorem dX3_allReach_9 : decode cX3_allReach 9 = .ok (.iload_n 3, 1) := by decide +kernel
theorem dX3_allReach_10 : decode cX3_allReach 10 = .ok (.ifCond .lt 109, 3) := by decide +kernel
theorem dX3_allReach_13 : decode cX3_allReach 13 = .ok (.iload_n 2, 1) := by decide +kernel
theorem dX3_allReach_14 : decode cX3_allReach 14 = .ok (.iload_n 3, 1) := by decide +kernel
theorem dX3_allReach_15 : decode cX3_allReach 15 = .ok (.invokestatic 53, 3) := by decide +kernel
theorem dX3_allReach_18 : decode cX3_allReach 18 = .ok (.istore 4, 2) := by decide +kernel
theorem dX3_allReach_20 : decode cX3_allReach 20 = .ok (.iload_n 2, 1) := by decide +kernel
theorem dX3_allReach_21 : decode cX3_allReach 21 = .ok (.bipush 7, 2) := by decide +kernel
theorem dX3_allReach_23 : decode cX3_allReach 23 = .ok (.if_icmp .ne 16, 3) := by decide +kernel
theorem dX3_allReach_26 : decode cX3_allReach 26 = .ok (.iload_n 1, 1) := by decide +kernel
theorem dX3_allReach_27 : decode cX3_allReach 27 = .ok (.ineg, 1) := by decide +kernel
theorem dX3_allReach_28 : decode cX3_allReach 28 = .ok (.aload_n 0, 1) := by decide +kernel
theorem dX3_allReach_29 : decode cX3_allReach 29 = .ok (.iload_n 2, 1) := by decide +kernel
theorem dX3_allReach_30 : decode cX3_allReach 30 = .ok (.iload_n 3, 1) := by decide +kernel
theorem dX3_allReach_31 : decode cX3_allReach 31 = .ok (.iconst 0, 1) := by decide +kernel
theorem dX3_allReach_32 : decode cX3_allReach 32 = .ok (.invokevirtual 77, 3) := by decide +kernel
theorem dX3_allReach_35 : decode cX3_allReach 35 = .ok (.imul, 1) := by decide +kernel
theorem dX3_allReach_36 : decode cX3_allReach 36 = .ok (.goto 10, 3) := by decide +kernel
theorem dX3_allReach_39 : decode cX3_allReach 39 = .ok (.aload_n 0, 1) := by decide +kernel
theorem dX3_allReach_40 : decode cX3_allReach 40 = .ok (.iload_n 2, 1) := by decide +kernel
theorem dX3_allReach_41 : decode cX3_allReach 41 = .ok (.iload_n 3, 1) := by decide +kernel
theorem dX3_allReach_42 : decode cX3_allReach 42 = .ok (.iload_n 1, 1) := by decide +kernel
theorem dX3_allReach_43 : decode cX3_allReach 43 = .ok (.invokevirtual 96, 3) := by decide +kernel
theorem dX3_allReach_46 : decode cX3_allReach 46 = .ok (.istore 5, 2) := by decide +kernel
theorem dX3_allReach_48 : decode cX3_allReach 48 = .ok (.aload_n 0, 1) := by decide +kernel
theorem dX3_allReach_49 : decode cX3_allReach 49 = .ok (.getfield 9, 3) := by decide +kernel
theorem dX3_allReach_52 : decode cX3_allReach 52 = .ok (.iload 4, 2) := by decide +kernel
theorem dX3_allReach_54 : decode cX3_allReach 54 = .ok (.iaload, 1) := by decide +kernel
theorem dX3_allReach_55 : decode cX3_allReach 55 = .ok (.iconst (-1), 1) := by decide +kernel
theorem dX3_allReach_56 : decode cX3_allReach 56 = .ok (.if_icmp .eq 10, 3) := by decide +kernel
theorem dX3_allReach_59 : decode cX3_allReach 59 = .ok (.iload 5, 2) := by decide +kernel
theorem dX3_allReach_61 : decode cX3_allReach 61 = .ok (.ldc 99, 2) := by decide +kernel
theorem dX3_allReach_63 : decode cX3_allReach 63 = .ok (.if_icmp .ne 7, 3) := by decide +kernel
theorem dX3_allReach_66 : decode cX3_allReach 66 = .ok (.iconst 1, 1) := by decide +kernel
theorem dX3_allReach_67 : decode cX3_allReach 67 = .ok (.goto 4, 3) := by decide +kernel
theorem dX3_allReach_70 : decode cX3_allReach 70 = .ok (.iconst 0, 1) := by decide +kernel
theorem dX3_allReach_71 : decode cX3_allReach 71 = .ok (.istore 6, 2) := by decide +kernel
theorem dX3_allReach_73 : decode cX3_allReach 73 = .ok (.aload_n 0, 1) := by decide +kernel
theorem dX3_allReach_74 : decode cX3_allReach 74 = .ok (.getfield 28, 3) := by decide +kernel
theorem dX3_allReach_77 : decode cX3_allReach 77 = .ok (.iload_n 3, 1) := by decide +kernel
theorem dX3_allReach_78 : decode cX3_allReach 78 = .ok (.iload 6, 2) := by decide +kernel
theorem dX3_allReach_80 : decode cX3_allReach 80 = .ok (.ifCond .eq 8, 3) := by decide +kernel
theorem dX3_allReach_83 : decode cX3_allReach 83 = .ok (.ldc 99, 2) := by decide +kernel
theorem dX3_allReach_85 : decode cX3_allReach 85 = .ok (.goto 16, 3) := by decide +kernel
theorem dX3_allReach_88 : decode cX3_allReach 88 = .ok (.iload 5, 2) := by decide +kernel
theorem dX3_allReach_90 : decode cX3_allReach 90 = .ok (.bipush 100, 2) := by decide +kernel
theorem dX3_allReach_92 : decode cX3_allReach 92 = .ok (.aload_n 0, 1) := by decide +kernel
theorem dX3_allReach_93 : decode cX3_allReach 93 = .ok (.getfield 9, 3) := by decide +kernel
theorem dX3_allReach_96 : decode cX3_allReach 96 = .ok (.iload 4, 2) := by decide +kernel
theorem dX3_allReach_98 : decode cX3_allReach 98 = .ok (.iaload, 1) := by decide +kernel
theorem dX3_allReach_99 : decode cX3_allReach 99 = .ok (.imul, 1) := by decide +kernel
theorem dX3_allReach_100 : decode cX3_allReach 100 = .ok (.iadd, 1) := by decide +kernel
theorem dX3_allReach_101 : decode cX3_allReach 101 = .ok (.iastore, 1) := by decide +kernel
theorem dX3_allReach_102 : decode cX3_allReach 102 = .ok (.aload_n 0, 1) := by decide +kernel
theorem dX3_allReach_103 : decode cX3_allReach 103 = .ok (.getfield 28, 3) := by decide +kernel
theorem dX3_allReach_106 : decode cX3_allReach 106 = .ok (.iload_n 3, 1) := by decide +kernel
theorem dX3_allReach_107 : decode cX3_allReach 107 = .ok (.iaload, 1) := by decide +kernel
theorem dX3_allReach_108 : decode cX3_allReach 108 = .ok (.ifCond .ge 5, 3) := by decide +kernel
theorem dX3_allReach_111 : decode cX3_allReach 111 = .ok (.iconst 0, 1) := by decide +kernel
theorem dX3_allReach_112 : decode cX3_allReach 112 = .ok (.ireturn, 1) := by decide +kernel
theorem dX3_allReach_113 : decode cX3_allReach 113 = .ok (.iinc 3 (-1), 3) := by decide +kernel
theorem dX3_allReach_116 : decode cX3_allReach 116 = .ok (.goto (-107), 3) := by decide +kernel
theorem dX3_allReach_119 : decode cX3_allReach 119 = .ok (.iinc 2 (-1), 3) := by decide +kernel
theorem dX3_allReach_122 : decode cX3_allReach 122 = .ok (.goto (-119), 3) := by decide +kernel
theorem dX3_allReach_125 : decode cX3_allReach 125 = .ok (.iconst 1, 1) := by decide +kernel
theorem dX3_allReach_126 : decode cX3_allReach 126 = .ok (.ireturn, 1) := by decide +kernel
theorem dX3_leastBehind_0 : decode cX3_leastBehind 0 = .ok (.ldc 99, 2) := by decide +kernel
theorem dX3_leastBehind_2 : decode cX3_leastBehind 2 = .ok (.istore 4, 2) := by decide +kernel
theorem dX3_leastBehind_4 : decode cX3_leastBehind 4 = .ok (.iconst 0, 1) := by decide +kernel
theorem dX3_leastBehind_5 : decode cX3_leastBehind 5 = .ok (.istore 5, 2) := by decide +kernel
theorem dX3_leastBehind_7 : decode cX3_leastBehind 7 = .ok (.iload 5, 2) := by decide +kernel
theorem dX3_leastBehind_9 : decode cX3_leastBehind 9 = .ok (.iload_n 2, 1) := by decide +kernel
theorem dX3_leastBehind_10 : decode cX3_leastBehind 10 = .ok (.if_icmp .gt 49, 3) := by decide +kernel
theorem dX3_leastBehind_13 : decode cX3_leastBehind 13 = .ok (.aload_n 0, 1) := by decide +kernel
theorem dX3_leastBehind_14 : decode cX3_leastBehind 14 = .ok (.getfield 28, 3) := by decide +kernel
theorem dX3_leastBehind_17 : decode cX3_leastBehind 17 = .ok (.iload 5, 2) := by decide +kernel
theorem dX3_leastBehind_19 : decode cX3_leastBehind 19 = .ok (.iaload, 1) := by decide +kernel
theorem dX3_leastBehind_20 : decode cX3_leastBehind 20 = .ok (.ldc 99, 2) := by decide +kernel
theorem dX3_leastBehind_22 : decode cX3_leastBehind 22 = .ok (.if_icmp .ne 6, 3) := by decide +kernel
theorem dX3_leastBehind_25 : decode cX3_leastBehind 25 = .ok (.goto 28, 3) := by decide +kernel
theorem dX3_leastBehind_28 : decode cX3_leastBehind 28 = .ok (.iload 4, 2) := by decide +kernel
theorem dX3_leastBehind_30 : decode cX3_leastBehind 30 = .ok (.aload_n 0, 1) := by decide +kernel
theorem dX3_leastBehind_31 : decode cX3_leastBehind 31 = .ok (.getfield 28, 3) := by decide +kernel
theorem dX3_leastBehind_34 : decode cX3_leastBehind 34 = .ok (.iload 5, 2) := by decide +kernel
theorem dX3_leastBehind_36 : decode cX3_leastBehind 36 = .ok (.iaload, 1) := by decide +kernel
theorem dX3_leastBehind_37 : decode cX3_leastBehind 37 = .ok (.iload_n 3, 1) := by decide +kernel
theorem dX3_leastBehind_38 : decode cX3_leastBehind 38 = .ok (.aload_n 0, 1) := by decide +kernel
theorem dX3_leastBehind_39 : decode cX3_leastBehind 39 = .ok (.iload_n 1, 1) := by decide +kernel
theorem dX3_leastBehind_40 : decode cX3_leastBehind 40 = .ok (.iload_n 2, 1) := by decide +kernel
theorem dX3_leastBehind_41 : decode cX3_leastBehind 41 = .ok (.iload 5, 2) := by decide +kernel
theorem dX3_leastBehind_43 : decode cX3_leastBehind 43 = .ok (.invokevirtual 77, 3) := by decide +kernel
theorem dX3_leastBehind_46 : decode cX3_leastBehind 46 = .ok (.imul, 1) := by decide +kernel
theorem dX3_leastBehind_47 : decode cX3_leastBehind 47 = .ok (.isub, 1) := by decide +kernel
theorem dX3_leastBehind_48 : decode cX3_leastBehind 48 = .ok (.invokestatic 85, 3) := by decide +kernel
theorem dX3_leastBehind_51 : decode cX3_leastBehind 51 = .ok (.istore 4, 2) := by decide +kernel
theorem dX3_leastBehind_53 : decode cX3_leastBehind 53 = .ok (.iinc 5 1, 3) := by decide +kernel
theorem dX3_leastBehind_56 : decode cX3_leastBehind 56 = .ok (.goto (-49), 3) := by decide +kernel
theorem dX3_leastBehind_59 : decode cX3_leastBehind 59 = .ok (.iload 4, 2) := by decide +kernel
theorem dX3_leastBehind_61 : decode cX3_leastBehind 61 = .ok (.ireturn, 1) := by decide +kernel
