theorem dX7_init_0 : decode cX7_init 0 = .ok (.aload_n 0, 1) := by decide +kernel
theorem dX7_init_1 : decode cX7_init 1 = .ok (.invokespecial 1, 3) := by decide +kernel
theorem dX7_init_4 : decode cX7_init 4 = .ok (.aload_n 0, 1) := by decide +kernel
theorem dX7_init_5 : decode cX7_init 5 = .ok (.sipush 163, 3) := by decide +kernel
theorem dX7_init_8 : decode cX7_init 8 = .ok (.newarray .int, 2) := by decide +kernel
theorem dX7_init_10 : decode cX7_init 10 = .ok (.putfield 7, 3) := by decide +kernel
theorem dX7_init_13 : decode cX7_init 13 = .ok (.aload_n 0, 1) := by decide +kernel
theorem dX7_init_14 : decode cX7_init 14 = .ok (.sipush 326, 3) := by decide +kernel
theorem dX7_init_17 : decode cX7_init 17 = .ok (.newarray .int, 2) := by decide +kernel
theorem dX7_init_19 : decode cX7_init 19 = .ok (.putfield 13, 3) := by decide +kernel
theorem dX7_init_22 : decode cX7_init 22 = .ok (.aload_n 0, 1) := by decide +kernel
theorem dX7_init_23 : decode cX7_init 23 = .ok (.iconst 2, 1) := by decide +kernel
theorem dX7_init_24 : decode cX7_init 24 = .ok (.newarray .boolean, 2) := by decide +kernel
theorem dX7_init_26 : decode cX7_init 26 = .ok (.putfield 16, 3) := by decide +kernel
theorem dX7_init_29 : decode cX7_init 29 = .ok (.aload_n 0, 1) := by decide +kernel
theorem dX7_init_30 : decode cX7_init 30 = .ok (.sipush 163, 3) := by decide +kernel
theorem dX7_init_33 : decode cX7_init 33 = .ok (.newarray .int, 2) := by decide +kernel
theorem dX7_init_35 : decode cX7_init 35 = .ok (.putfield 20, 3) := by decide +kernel
theorem dX7_init_38 : decode cX7_init 38 = .ok (.aload_n 0, 1) := by decide +kernel
theorem dX7_init_39 : decode cX7_init 39 = .ok (.bipush 66, 2) := by decide +kernel
theorem dX7_init_41 : decode cX7_init 41 = .ok (.newarray .int, 2) := by decide +kernel
theorem dX7_init_43 : decode cX7_init 43 = .ok (.putfield 23, 3) := by decide +kernel
theorem dX7_init_46 : decode cX7_init 46 = .ok (.aload_n 0, 1) := by decide +kernel
theorem dX7_init_47 : decode cX7_init 47 = .ok (.sipush 400, 3) := by decide +kernel
theorem dX7_init_50 : decode cX7_init 50 = .ok (.newarray .int, 2) := by decide +kernel
theorem dX7_init_52 : decode cX7_init 52 = .ok (.putfield 26, 3) := by decide +kernel
theorem dX7_init_55 : decode cX7_init 55 = .ok (.aload_n 0, 1) := by decide +kernel
theorem dX7_init_56 : decode cX7_init 56 = .ok (.iconst 4, 1) := by decide +kernel
theorem dX7_init_57 : decode cX7_init 57 = .ok (.putfield 29, 3) := by decide +kernel
theorem dX7_init_60 : decode cX7_init 60 = .ok (.aload_n 0, 1) := by decide +kernel
theorem dX7_init_61 : decode cX7_init 61 = .ok (.bipush 8, 2) := by decide +kernel
theorem dX7_init_63 : decode cX7_init 63 = .ok (.newarray .int, 2) := by decide +kernel
theorem dX7_init_65 : decode cX7_init 65 = .ok (.putfield 33, 3) := by decide +kernel
theorem dX7_init_68 : decode cX7_init 68 = .ok (.aload_n 0, 1) := by decide +kernel
theorem dX7_init_69 : decode cX7_init 69 = .ok (.bipush 8, 2) := by decide +kernel
theorem dX7_init_71 : decode cX7_init 71 = .ok (.newarray .int, 2) := by decide +kernel
theorem dX7_init_73 : decode cX7_init 73 = .ok (.putfield 36, 3) := by decide +kernel
theorem dX7_init_76 : decode cX7_init 76 = .ok (.aload_n 0, 1) := by decide +kernel
theorem dX7_init_77 : decode cX7_init 77 = .ok (.bipush 8, 2) := by decide +kernel
theorem dX7_init_79 : decode cX7_init 79 = .ok (.newarray .int, 2) := by decide +kernel
theorem dX7_init_81 : decode cX7_init 81 = .ok (.putfield 39, 3) := by decide +kernel
theorem dX7_init_84 : decode cX7_init 84 = .ok (.aload_n 0, 1) := by decide +kernel
theorem dX7_init_85 : decode cX7_init 85 = .ok (.bipush 48, 2) := by decide +kernel
theorem dX7_init_87 : decode cX7_init 87 = .ok (.newarray .boolean, 2) := by decide +kernel
theorem dX7_init_89 : decode cX7_init 89 = .ok (.putfield 42, 3) := by decide +kernel
theorem dX7_init_92 : decode cX7_init 92 = .ok (.aload_n 0, 1) := by decide +kernel
theorem dX7_init_93 : decode cX7_init 93 = .ok (.bipush 6, 2) := by decide +kernel
theorem dX7_init_95 : decode cX7_init 95 = .ok (.newarray .int, 2) := by decide +kernel
theorem dX7_init_97 : decode cX7_init 97 = .ok (.putfield 45, 3) := by decide +kernel
theorem dX7_init_100 : decode cX7_init 100 = .ok (.aload_n 0, 1) := by decide +kernel
theorem dX7_init_101 : decode cX7_init 101 = .ok (.bipush 8, 2) := by decide +kernel
theorem dX7_init_103 : decode cX7_init 103 = .ok (.newarray .int, 2) := by decide +kernel
theorem dX7_init_105 : decode cX7_init 105 = .ok (.putfield 48, 3) := by decide +kernel
theorem dX7_init_108 : decode cX7_init 108 = .ok (.aload_n 0, 1) := by decide +kernel
theorem dX7_init_109 : decode cX7_init 109 = .ok (.bipush 96, 2) := by decide +kernel
theorem dX7_init_111 : decode cX7_init 111 = .ok (.newarray .int, 2) := by decide +kernel
theorem dX7_init_113 : decode cX7_init 113 = .ok (.putfield 51, 3) := by decide +kernel
theorem dX7_init_116 : decode cX7_init 116 = .ok (.aload_n 0, 1) := by decide +kernel
theorem dX7_init_117 : decode cX7_init 117 = .ok (.bipush 16, 2) := by decide +kernel
theorem dX7_init_119 : decode cX7_init 119 = .ok (.newarray .int, 2) := by decide +kernel
theorem dX7_init_121 : decode cX7_init 121 = .ok (.putfield 54, 3) := by decide +kernel
theorem dX7_init_124 : decode cX7_init 124 = .ok (.aload_n 0, 1) := by decide +kernel
theorem dX7_init_125 : decode cX7_init 125 = .ok (.bipush 16, 2) := by decide +kernel
theorem dX7_init_127 : decode cX7_init 127 = .ok (.newarray .int, 2) := by decide +kernel
theorem dX7_init_129 : decode cX7_init 129 = .ok (.putfield 57, 3) := by decide +kernel
theorem dX7_init_132 : decode cX7_init 132 = .ok (.aload_n 0, 1) := by decide +kernel
theorem dX7_init_133 : decode cX7_init 133 = .ok (.bipush 100, 2) := by decide +kernel
theorem dX7_init_135 : decode cX7_init 135 = .ok (.putfield 60, 3) := by decide +kernel
theorem dX7_init_138 : decode cX7_init 138 = .ok (.aload_n 0, 1) := by decide +kernel
theorem dX7_init_139 : decode cX7_init 139 = .ok (.bipush 48, 2) := by decide +kernel
theorem dX7_init_141 : decode cX7_init 141 = .ok (.newarray .int, 2) := by decide +kernel
theorem dX7_init_143 : decode cX7_init 143 = .ok (.putfield 63, 3) := by decide +kernel
theorem dX7_init_146 : decode cX7_init 146 = .ok (.aload_n 0, 1) := by decide +kernel
theorem dX7_init_147 : decode cX7_init 147 = .ok (.bipush 48, 2) := by decide +kernel
theorem dX7_init_149 : decode cX7_init 149 = .ok (.newarray .int, 2) := by decide +kernel
theorem dX7_init_151 : decode cX7_init 151 = .ok (.putfield 66, 3) := by decide +kernel
theorem dX7_init_154 : decode cX7_init 154 = .ok (.aload_n 0, 1) := by decide +kernel
theorem dX7_init_155 : decode cX7_init 155 = .ok (.bipush 40, 2) := by decide +kernel
theorem dX7_init_157 : decode cX7_init 157 = .ok (.newarray .int, 2) := by decide +kernel
theorem dX7_init_159 : decode cX7_init 159 = .ok (.putfield 69, 3) := by decide +kernel
theorem dX7_init_162 : decode cX7_init 162 = .ok (.aload_n 0, 1) := by decide +kernel
theorem dX7_init_163 : decode cX7_init 163 = .ok (.invokevirtual 72, 3) := by decide +kernel
theorem dX7_init_166 : decode cX7_init 166 = .ok (.aload_n 0, 1) := by decide +kernel
theorem dX7_init_167 : decode cX7_init 167 = .ok (.getfield 45, 3) := by decide +kernel
theorem dX7_init_170 : decode cX7_init 170 = .ok (.iconst 0, 1) := by decide +kernel
theorem dX7_init_171 : decode cX7_init 171 = .ok (.bipush 50, 2) := by decide +kernel
theorem dX7_init_173 : decode cX7_init 173 = .ok (.iastore, 1) := by decide +kernel
theorem dX7_init_174 : decode cX7_init 174 = .ok (.aload_n 0, 1) := by decide +kernel
theorem dX7_init_175 : decode cX7_init 175 = .ok (.getfield 45, 3) := by decide +kernel
theorem dX7_init_178 : decode cX7_init 178 = .ok (.iconst 1, 1) := by decide +kernel
theorem dX7_init_179 : decode cX7_init 179 = .ok (.sipush 1000, 3) := by decide +kernel
theorem dX7_init_182 : decode cX7_init 182 = .ok (.iastore, 1) := by decide +kernel
theorem dX7_init_183 : decode cX7_init 183 = .ok (.aload_n 0, 1) := by decide +kernel
theorem dX7_init_184 : decode cX7_init 184 = .ok (.getfield 45, 3) := by decide +kernel
theorem dX7_init_187 : decode cX7_init 187 = .ok (.iconst 2, 1) := by decide +kernel
theorem dX7_init_188 : decode cX7_init 188 = .ok (.bipush 100, 2) := by decide +kernel
theorem dX7_init_190 : decode cX7_init 190 = .ok (.iastore, 1) := by decide +kernel
theorem dX7_init_191 : decode cX7_init 191 = .ok (.aload_n 0, 1) := by decide +kernel
theorem dX7_init_192 : decode cX7_init 192 = .ok (.getfield 45, 3) := by decide +kernel
theorem dX7_init_195 : decode cX7_init 195 = .ok (.iconst 3, 1) := by decide +kernel
theorem dX7_init_196 : decode cX7_init 196 = .ok (.sipush 2000, 3) := by decide +kernel
theorem dX7_init_199 : decode cX7_init 199 = .ok (.iastore, 1) := by decide +kernel
theorem dX7_init_200 : decode cX7_init 200 = .ok (.aload_n 0, 1) := by decide +kernel
theorem dX7_init_201 : decode cX7_init 201 = .ok (.getfield 45, 3) := by decide +kernel
theorem dX7_init_204 : decode cX7_init 204 = .ok (.iconst 4, 1) := by decide +kernel
theorem dX7_init_205 : decode cX7_init 205 = .ok (.bipush 120, 2) := by decide +kernel
theorem dX7_init_207 : decode cX7_init 207 = .ok (.iastore, 1) := by decide +kernel
theorem dX7_init_208 : decode cX7_init 208 = .ok (.return_, 1) := by decide +kernel
theorem dX7_in_0 : decode cX7_in 0 = .ok (.iload_n 0, 1) := by decide +kernel
theorem dX7_in_1 : decode cX7_in 1 = .ok (.iload_n 1, 1) := by decide +kernel
theorem dX7_in_2 : decode cX7_in 2 = .ok (.if_icmp .lt 12, 3) := by decide +kernel
theorem dX7_in_5 : decode cX7_in 5 = .ok (.iload_n 0, 1) := by decide +kernel
theorem dX7_in_6 : decode cX7_in 6 = .ok (.iload_n 2, 1) := by decide +kernel
theorem dX7_in_7 : decode cX7_in 7 = .ok (.if_icmp .gt 7, 3) := by decide +kernel
theorem dX7_in_10 : decode cX7_in 10 = .ok (.iconst 1, 1) := by decide +kernel
theorem dX7_in_11 : decode cX7_in 11 = .ok (.goto 4, 3) := by decide +kernel
theorem dX7_in_14 : decode cX7_in 14 = .ok (.iconst 0, 1) := by decide +kernel
theorem dX7_in_15 : decode cX7_in 15 = .ok (.ireturn, 1) := by decide +kernel
theorem dX7_begins_0 : decode cX7_begins 0 = .ok (.iconst 0, 1) := by decide +kernel
theorem dX7_begins_1 : decode cX7_begins 1 = .ok (.istore_n 1, 1) := by decide +kernel
theorem dX7_begins_2 : decode cX7_begins 2 = .ok (.iload_n 1, 1) := by decide +kernel
theorem dX7_begins_3 : decode cX7_begins 3 = .ok (.bipush 48, 2) := by decide +kernel
theorem dX7_begins_5 : decode cX7_begins 5 = .ok (.if_icmp .ge 39, 3) := by decide +kernel
theorem dX7_begins_8 : decode cX7_begins 8 = .ok (.aload_n 0, 1) := by decide +kernel
theorem dX7_begins_9 : decode cX7_begins 9 = .ok (.getfield 7, 3) := by decide +kernel
theorem dX7_begins_12 : decode cX7_begins 12 = .ok (.iconst 0, 1) := by decide +kernel
theorem dX7_begins_13 : decode cX7_begins 13 = .ok (.iload_n 1, 1) := by decide +kernel
theorem dX7_begins_14 : decode cX7_begins 14 = .ok (.iadd, 1) := by decide +kernel
theorem dX7_begins_15 : decode cX7_begins 15 = .ok (.bipush (-9), 2) := by decide +kernel
theorem dX7_begins_17 : decode cX7_begins 17 = .ok (.iastore, 1) := by decide +kernel
theorem dX7_begins_18 : decode cX7_begins 18 = .ok (.aload_n 0, 1) := by decide +kernel
theorem dX7_begins_19 : decode cX7_begins 19 = .ok (.getfield 7, 3) := by decide +kernel
theorem dX7_begins_22 : decode cX7_begins 22 = .ok (.bipush 48, 2) := by decide +kernel
theorem dX7_begins_24 : decode cX7_begins 24 = .ok (.iload_n 1, 1) := by decide +kernel
theorem dX7_begins_25 : decode cX7_begins 25 = .ok (.iadd, 1) := by decide +kernel
theorem dX7_begins_26 : decode cX7_begins 26 = .ok (.iconst 0, 1) := by decide +kernel
theorem dX7_begins_27 : decode cX7_begins 27 = .ok (.iastore, 1) := by decide +kernel
theorem dX7_begins_28 : decode cX7_begins 28 = .ok (.aload_n 0, 1) := by decide +kernel
theorem dX7_begins_29 : decode cX7_begins 29 = .ok (.getfield 7, 3) := by decide +kernel
theorem dX7_begins_32 : decode cX7_begins 32 = .ok (.bipush 96, 2) := by decide +kernel
theorem dX7_begins_34 : decode cX7_begins 34 = .ok (.iload_n 1, 1) := by decide +kernel
theorem dX7_begins_35 : decode cX7_begins 35 = .ok (.iadd, 1) := by decide +kernel
theorem dX7_begins_36 : decode cX7_begins 36 = .ok (.iconst 0, 1) := by decide +kernel
theorem dX7_begins_37 : decode cX7_begins 37 = .ok (.iastore, 1) := by decide +kernel
theorem dX7_begins_38 : decode cX7_begins 38 = .ok (.iinc 1 1, 3) := by decide +kernel
theorem dX7_begins_41 : decode cX7_begins 41 = .ok (.goto (-39), 3) := by decide +kernel
theorem dX7_begins_44 : decode cX7_begins 44 = .ok (.iconst 0, 1) := by decide +kernel
theorem dX7_begins_45 : decode cX7_begins 45 = .ok (.istore_n 1, 1) := by decide +kernel
theorem dX7_begins_46 : decode cX7_begins 46 = .ok (.iload_n 1, 1) := by decide +kernel
theorem dX7_begins_47 : decode cX7_begins 47 = .ok (.bipush 18, 2) := by decide +kernel
theorem dX7_begins_49 : decode cX7_begins 49 = .ok (.if_icmp .ge 21, 3) := by decide +kernel
theorem dX7_begins_52 : decode cX7_begins 52 = .ok (.aload_n 0, 1) := by decide +kernel
theorem dX7_begins_53 : decode cX7_begins 53 = .ok (.getfield 7, 3) := by decide +kernel
theorem dX7_begins_56 : decode cX7_begins 56 = .ok (.sipush 144, 3) := by decide +kernel
theorem dX7_begins_59 : decode cX7_begins 59 = .ok (.iload_n 1, 1) := by decide +kernel
theorem dX7_begins_60 : decode cX7_begins 60 = .ok (.iadd, 1) := by decide +kernel
theorem dX7_begins_61 : decode cX7_begins 61 = .ok (.bipush 10, 2) := by decide +kernel
theorem dX7_begins_63 : decode cX7_begins 63 = .ok (.iastore, 1) := by decide +kernel
theorem dX7_begins_64 : decode cX7_begins 64 = .ok (.iinc 1 1, 3) := by decide +kernel
theorem dX7_begins_67 : decode cX7_begins 67 = .ok (.goto (-21), 3) := by decide +kernel
theorem dX7_begins_70 : decode cX7_begins 70 = .ok (.return_, 1) := by decide +kernel
theorem dX7_isCell_0 : decode cX7_isCell 0 = .ok (.iload_n 0, 1) := by decide +kernel
theorem dX7_isCell_1 : decode cX7_isCell 1 = .ok (.iconst 0, 1) := by decide +kernel
theorem dX7_isCell_2 : decode cX7_isCell 2 = .ok (.bipush 7, 2) := by decide +kernel
theorem dX7_isCell_4 : decode cX7_isCell 4 = .ok (.invokestatic 78, 3) := by decide +kernel
theorem dX7_isCell_7 : decode cX7_isCell 7 = .ok (.ifCond .eq 16, 3) := by decide +kernel
theorem dX7_isCell_10 : decode cX7_isCell 10 = .ok (.iload_n 1, 1) := by decide +kernel
theorem dX7_isCell_11 : decode cX7_isCell 11 = .ok (.iconst 0, 1) := by decide +kernel
theorem dX7_isCell_12 : decode cX7_isCell 12 = .ok (.iconst 5, 1) := by decide +kernel
theorem dX7_isCell_13 : decode cX7_isCell 13 = .ok (.invokestatic 78, 3) := by decide +kernel
theorem dX7_isCell_16 : decode cX7_isCell 16 = .ok (.ifCond .eq 7, 3) := by decide +kernel
theorem dX7_isCell_19 : decode cX7_isCell 19 = .ok (.iconst 1, 1) := by decide +kernel
theorem dX7_isCell_20 : decode cX7_isCell 20 = .ok (.goto 4, 3) := by decide +kernel
theorem dX7_isCell_23 : decode cX7_isCell 23 = .ok (.iconst 0, 1) := by decide +kernel
theorem dX7_isCell_24 : decode cX7_isCell 24 = .ok (.ireturn, 1) := by decide +kernel
theorem dX7_isEarth_0 : decode cX7_isEarth 0 = .ok (.aload_n 0, 1) := by decide +kernel
theorem dX7_isEarth_1 : decode cX7_isEarth 1 = .ok (.getfield 7, 3) := by decide +kernel
theorem dX7_isEarth_4 : decode cX7_isEarth 4 = .ok (.iconst 0, 1) := by decide +kernel
theorem dX7_isEarth_5 : decode cX7_isEarth 5 = .ok (.iload_n 1, 1) := by decide +kernel
theorem dX7_isEarth_6 : decode cX7_isEarth 6 = .ok (.iadd, 1) := by decide +kernel
theorem dX7_isEarth_7 : decode cX7_isEarth 7 = .ok (.iaload, 1) := by decide +kernel
theorem dX7_isEarth_8 : decode cX7_isEarth 8 = .ok (.bipush (-9), 2) := by decide +kernel
theorem dX7_isEarth_10 : decode cX7_isEarth 10 = .ok (.if_icmp .eq 19, 3) := by decide +kernel
theorem dX7_isEarth_13 : decode cX7_isEarth 13 = .ok (.aload_n 0, 1) := by decide +kernel
theorem dX7_isEarth_14 : decode cX7_isEarth 14 = .ok (.getfield 7, 3) := by decide +kernel
theorem dX7_isEarth_17 : decode cX7_isEarth 17 = .ok (.bipush 96, 2) := by decide +kernel
theorem dX7_isEarth_19 : decode cX7_isEarth 19 = .ok (.iload_n 1, 1) := by decide +kernel
theorem dX7_isEarth_20 : decode cX7_isEarth 20 = .ok (.iadd, 1) := by decide +kernel
theorem dX7_isEarth_21 : decode cX7_isEarth 21 = .ok (.iaload, 1) := by decide +kernel
theorem dX7_isEarth_22 : decode cX7_isEarth 22 = .ok (.ifCond .ne 7, 3) := by decide +kernel
theorem dX7_isEarth_25 : decode cX7_isEarth 25 = .ok (.iconst 1, 1) := by decide +kernel
theorem dX7_isEarth_26 : decode cX7_isEarth 26 = .ok (.goto 4, 3) := by decide +kernel
theorem dX7_isEarth_29 : decode cX7_isEarth 29 = .ok (.iconst 0, 1) := by decide +kernel
theorem dX7_isEarth_30 : decode cX7_isEarth 30 = .ok (.ireturn, 1) := by decide +kernel
theorem dX7_earth_0 : decode cX7_earth 0 = .ok (.iconst 0, 1) := by decide +kernel
theorem dX7_earth_1 : decode cX7_earth 1 = .ok (.istore_n 1, 1) := by decide +kernel
theorem dX7_earth_2 : decode cX7_earth 2 = .ok (.iconst 0, 1) := by decide +kernel
theorem dX7_earth_3 : decode cX7_earth 3 = .ok (.istore_n 2, 1) := by decide +kernel
theorem dX7_earth_4 : decode cX7_earth 4 = .ok (.iload_n 2, 1) := by decide +kernel
theorem dX7_earth_5 : decode cX7_earth 5 = .ok (.bipush 48, 2) := by decide +kernel
theorem dX7_earth_7 : decode cX7_earth 7 = .ok (.if_icmp .ge 25, 3) := by decide +kernel
theorem dX7_earth_10 : decode cX7_earth 10 = .ok (.iload_n 1, 1) := by decide +kernel
theorem dX7_earth_11 : decode cX7_earth 11 = .ok (.aload_n 0, 1) := by decide +kernel
theorem dX7_earth_12 : decode cX7_earth 12 = .ok (.iload_n 2, 1) := by decide +kernel
theorem dX7_earth_13 : decode cX7_earth 13 = .ok (.invokevirtual 82, 3) := by decide +kernel
theorem dX7_earth_16 : decode cX7_earth 16 = .ok (.ifCond .eq 7, 3) := by decide +kernel
theorem dX7_earth_19 : decode cX7_earth 19 = .ok (.iconst 1, 1) := by decide +kernel
theorem dX7_earth_20 : decode cX7_earth 20 = .ok (.goto 4, 3) := by decide +kernel
theorem dX7_earth_23 : decode cX7_earth 23 = .ok (.iconst 0, 1) := by decide +kernel
theorem dX7_earth_24 : decode cX7_earth 24 = .ok (.iadd, 1) := by decide +kernel
theorem dX7_earth_25 : decode cX7_earth 25 = .ok (.istore_n 1, 1) := by decide +kernel
theorem dX7_earth_26 : decode cX7_earth 26 = .ok (.iinc 2 1, 3) := by decide +kernel
theorem dX7_earth_29 : decode cX7_earth 29 = .ok (.goto (-25), 3) := by decide +kernel
theorem dX7_earth_32 : decode cX7_earth 32 = .ok (.iload_n 1, 1) := by decide +kernel
theorem dX7_earth_33 : decode cX7_earth 33 = .ok (.ireturn, 1) := by decide +kernel
theorem dX7_pushOf_0 : decode cX7_pushOf 0 = .ok (.aload_n 0, 1) := by decide +kernel
theorem dX7_pushOf_1 : decode cX7_pushOf 1 = .ok (.getfield 7, 3) := by decide +kernel
theorem dX7_pushOf_4 : decode cX7_pushOf 4 = .ok (.bipush 48, 2) := by decide +kernel
theorem dX7_pushOf_6 : decode cX7_pushOf 6 = .ok (.iload_n 1, 1) := by decide +kernel
theorem dX7_pushOf_7 : decode cX7_pushOf 7 = .ok (.iadd, 1) := by decide +kernel
theorem dX7_pushOf_8 : decode cX7_pushOf 8 = .ok (.iaload, 1) := by decide +kernel
theorem dX7_pushOf_9 : decode cX7_pushOf 9 = .ok (.sipush 1000, 3) := by decide +kernel
theorem dX7_pushOf_12 : decode cX7_pushOf 12 = .ok (.iload_n 1, 1) := by decide +kernel
theorem dX7_pushOf_13 : decode cX7_pushOf 13 = .ok (.bipush 8, 2) := by decide +kernel
theorem dX7_pushOf_15 : decode cX7_pushOf 15 = .ok (.idiv, 1) := by decide +kernel
theorem dX7_pushOf_16 : decode cX7_pushOf 16 = .ok (.imul, 1) := by decide +kernel
theorem dX7_pushOf_17 : decode cX7_pushOf 17 = .ok (.isub, 1) := by decide +kernel
theorem dX7_pushOf_18 : decode cX7_pushOf 18 = .ok (.istore_n 2, 1) := by decide +kernel
theorem dX7_pushOf_19 : decode cX7_pushOf 19 = .ok (.iload_n 2, 1) := by decide +kernel
theorem dX7_pushOf_20 : decode cX7_pushOf 20 = .ok (.ifCond .ge 7, 3) := by decide +kernel
theorem dX7_pushOf_23 : decode cX7_pushOf 23 = .ok (.iconst 0, 1) := by decide +kernel
theorem dX7_pushOf_24 : decode cX7_pushOf 24 = .ok (.goto 4, 3) := by decide +kernel
theorem dX7_pushOf_27 : decode cX7_pushOf 27 = .ok (.iload_n 2, 1) := by decide +kernel
theorem dX7_pushOf_28 : decode cX7_pushOf 28 = .ok (.ireturn, 1) := by decide +kernel
theorem dX7_isWet_0 : decode cX7_isWet 0 = .ok (.aload_n 0, 1) := by decide +kernel
theorem dX7_isWet_1 : decode cX7_isWet 1 = .ok (.iload_n 1, 1) := by decide +kernel
theorem dX7_isWet_2 : decode cX7_isWet 2 = .ok (.invokevirtual 82, 3) := by decide +kernel
theorem dX7_isWet_5 : decode cX7_isWet 5 = .ok (.ifCond .eq 15, 3) := by decide +kernel
theorem dX7_isWet_8 : decode cX7_isWet 8 = .ok (.aload_n 0, 1) := by decide +kernel
theorem dX7_isWet_9 : decode cX7_isWet 9 = .ok (.iload_n 1, 1) := by decide +kernel
theorem dX7_isWet_10 : decode cX7_isWet 10 = .ok (.invokevirtual 86, 3) := by decide +kernel
theorem dX7_isWet_13 : decode cX7_isWet 13 = .ok (.ifCond .le 7, 3) := by decide +kernel
theorem dX7_isWet_16 : decode cX7_isWet 16 = .ok (.iconst 1, 1) := by decide +kernel
theorem dX7_isWet_17 : decode cX7_isWet 17 = .ok (.goto 4, 3) := by decide +kernel
theorem dX7_isWet_20 : decode cX7_isWet 20 = .ok (.iconst 0, 1) := by decide +kernel
theorem dX7_isWet_21 : decode cX7_isWet 21 = .ok (.ireturn, 1) := by decide +kernel
theorem dX7_holdOf_0 : decode cX7_holdOf 0 = .ok (.aload_n 0, 1) := by decide +kernel
theorem dX7_holdOf_1 : decode cX7_holdOf 1 = .ok (.getfield 7, 3) := by decide +kernel
theorem dX7_holdOf_4 : decode cX7_holdOf 4 = .ok (.sipush 150, 3) := by decide +kernel
theorem dX7_holdOf_7 : decode cX7_holdOf 7 = .ok (.aload_n 0, 1) := by decide +kernel
theorem dX7_holdOf_8 : decode cX7_holdOf 8 = .ok (.getfield 7, 3) := by decide +kernel
theorem dX7_holdOf_11 : decode cX7_holdOf 11 = .ok (.iconst 0, 1) := by decide +kernel
theorem dX7_holdOf_12 : decode cX7_holdOf 12 = .ok (.iload_n 1, 1) := by decide +kernel
theorem dX7_holdOf_13 : decode cX7_holdOf 13 = .ok (.iadd, 1) := by decide +kernel
theorem dX7_holdOf_14 : decode cX7_holdOf 14 = .ok (.iaload, 1) := by decide +kernel
theorem dX7_holdOf_15 : decode cX7_holdOf 15 = .ok (.iadd, 1) := by decide +kernel
theorem dX7_holdOf_16 : decode cX7_holdOf 16 = .ok (.iaload, 1) := by decide +kernel
theorem dX7_holdOf_17 : decode cX7_holdOf 17 = .ok (.ireturn, 1) := by decide +kernel
theorem dX7_type_0 : decode cX7_type 0 = .ok (.aload_n 0, 1) := by decide +kernel
theorem dX7_type_1 : decode cX7_type 1 = .ok (.iconst 0, 1) := by decide +kernel
theorem dX7_type_2 : decode cX7_type 2 = .ok (.putfield 75, 3) := by decide +kernel
theorem dX7_type_5 : decode cX7_type 5 = .ok (.iload_n 3, 1) := by decide +kernel
theorem dX7_type_6 : decode cX7_type 6 = .ok (.iconst 1, 1) := by decide +kernel
theorem dX7_type_7 : decode cX7_type 7 = .ok (.bipush 8, 2) := by decide +kernel
theorem dX7_type_9 : decode cX7_type 9 = .ok (.invokestatic 78, 3) := by decide +kernel
theorem dX7_type_12 : decode cX7_type 12 = .ok (.ifCond .ne 5, 3) := by decide +kernel
theorem dX7_type_15 : decode cX7_type 15 = .ok (.iconst (-1), 1) := by decide +kernel
theorem dX7_type_16 : decode cX7_type 16 = .ok (.ireturn, 1) := by decide +kernel
theorem dX7_type_17 : decode cX7_type 17 = .ok (.aload_n 0, 1) := by decide +kernel
theorem dX7_type_18 : decode cX7_type 18 = .ok (.getfield 90, 3) := by decide +kernel
theorem dX7_type_21 : decode cX7_type 21 = .ok (.iload_n 3, 1) := by decide +kernel
theorem dX7_type_22 : decode cX7_type 22 = .ok (.iadd, 1) := by decide +kernel
theorem dX7_type_23 : decode cX7_type 23 = .ok (.sipush 400, 3) := by decide +kernel
theorem dX7_type_26 : decode cX7_type 26 = .ok (.if_icmp .le 6, 3) := by decide +kernel
theorem dX7_type_29 : decode cX7_type 29 = .ok (.bipush (-3), 2) := by decide +kernel
theorem dX7_type_31 : decode cX7_type 31 = .ok (.ireturn, 1) := by decide +kernel
theorem dX7_type_32 : decode cX7_type 32 = .ok (.iload_n 3, 1) := by decide +kernel
theorem dX7_type_33 : decode cX7_type 33 = .ok (.iconst 1, 1) := by decide +kernel
theorem dX7_type_34 : decode cX7_type 34 = .ok (.isub, 1) := by decide +kernel
theorem dX7_type_35 : decode cX7_type 35 = .ok (.istore 4, 2) := by decide +kernel
theorem dX7_type_37 : decode cX7_type 37 = .ok (.iload 4, 2) := by decide +kernel
theorem dX7_type_39 : decode cX7_type 39 = .ok (.ifCond .lt 40, 3) := by decide +kernel
theorem dX7_type_42 : decode cX7_type 42 = .ok (.aload_n 0, 1) := by decide +kernel
theorem dX7_type_43 : decode cX7_type 43 = .ok (.getfield 26, 3) := by decide +kernel
theorem dX7_type_46 : decode cX7_type 46 = .ok (.aload_n 0, 1) := by decide +kernel
theorem dX7_type_47 : decode cX7_type 47 = .ok (.getfield 90, 3) := by decide +kernel
theorem dX7_type_50 : decode cX7_type 50 = .ok (.lload_n 1, 1) := by decide +kernel
theorem dX7_type_51 : decode cX7_type 51 = .ok (.bipush 8, 2) := by decide +kernel
theorem dX7_type_53 : decode cX7_type 53 = .ok (.iload 4, 2) := by decide +kernel
theorem dX7_type_55 : decode cX7_type 55 = .ok (.imul, 1) := by decide +kernel
theorem dX7_type_56 : decode cX7_type 56 = .ok (.lshr, 1) := by decide +kernel
theorem dX7_type_57 : decode cX7_type 57 = .ok (.ldc2_w 93, 3) := by decide +kernel
theorem dX7_type_60 : decode cX7_type 60 = .ok (.land, 1) := by decide +kernel
theorem dX7_type_61 : decode cX7_type 61 = .ok (.l2i, 1) := by decide +kernel
theorem dX7_type_62 : decode cX7_type 62 = .ok (.iastore, 1) := by decide +kernel
theorem dX7_type_63 : decode cX7_type 63 = .ok (.aload_n 0, 1) := by decide +kernel
theorem dX7_type_64 : decode cX7_type 64 = .ok (.dup, 1) := by decide +kernel
theorem dX7_type_65 : decode cX7_type 65 = .ok (.getfield 90, 3) := by decide +kernel
theorem dX7_type_68 : decode cX7_type 68 = .ok (.iconst 1, 1) := by decide +kernel
theorem dX7_type_69 : decode cX7_type 69 = .ok (.iadd, 1) := by decide +kernel
theorem dX7_type_70 : decode cX7_type 70 = .ok (.putfield 90, 3) := by decide +kernel
theorem dX7_type_73 : decode cX7_type 73 = .ok (.iinc 4 (-1), 3) := by decide +kernel
theorem dX7_type_76 : decode cX7_type 76 = .ok (.goto (-39), 3) := by decide +kernel
theorem dX7_type_79 : decode cX7_type 79 = .ok (.aload_n 0, 1) := by decide +kernel
theorem dX7_type_80 : decode cX7_type 80 = .ok (.getfield 90, 3) := by decide +kernel
theorem dX7_type_83 : decode cX7_type 83 = .ok (.ireturn, 1) := by decide +kernel
theorem dX7_clear_0 : decode cX7_clear 0 = .ok (.aload_n 0, 1) := by decide +kernel
theorem dX7_clear_1 : decode cX7_clear 1 = .ok (.iconst 0, 1) := by decide +kernel
theorem dX7_clear_2 : decode cX7_clear 2 = .ok (.putfield 75, 3) := by decide +kernel
theorem dX7_clear_5 : decode cX7_clear 5 = .ok (.aload_n 0, 1) := by decide +kernel
theorem dX7_clear_6 : decode cX7_clear 6 = .ok (.getfield 90, 3) := by decide +kernel
theorem dX7_clear_9 : decode cX7_clear 9 = .ok (.istore_n 1, 1) := by decide +kernel
theorem dX7_clear_10 : decode cX7_clear 10 = .ok (.aload_n 0, 1) := by decide +kernel
theorem dX7_clear_11 : decode cX7_clear 11 = .ok (.iconst 0, 1) := by decide +kernel
theorem dX7_clear_12 : decode cX7_clear 12 = .ok (.putfield 90, 3) := by decide +kernel
theorem dX7_clear_15 : decode cX7_clear 15 = .ok (.iload_n 1, 1) := by decide +kernel
theorem dX7_clear_16 : decode cX7_clear 16 = .ok (.ireturn, 1) := by decide +kernel
theorem dX7_byteAt_0 : decode cX7_byteAt 0 = .ok (.iload_n 1, 1) := by decide +kernel
theorem dX7_byteAt_1 : decode cX7_byteAt 1 = .ok (.aload_n 0, 1) := by decide +kernel
theorem dX7_byteAt_2 : decode cX7_byteAt 2 = .ok (.getfield 90, 3) := by decide +kernel
theorem dX7_byteAt_5 : decode cX7_byteAt 5 = .ok (.if_icmp .ge 12, 3) := by decide +kernel
theorem dX7_byteAt_8 : decode cX7_byteAt 8 = .ok (.aload_n 0, 1) := by decide +kernel
theorem dX7_byteAt_9 : decode cX7_byteAt 9 = .ok (.getfield 26, 3) := by decide +kernel
theorem dX7_byteAt_12 : decode cX7_byteAt 12 = .ok (.iload_n 1, 1) := by decide +kernel
theorem dX7_byteAt_13 : decode cX7_byteAt 13 = .ok (.iaload, 1) := by decide +kernel
theorem dX7_byteAt_14 : decode cX7_byteAt 14 = .ok (.goto 4, 3) := by decide +kernel
theorem dX7_byteAt_17 : decode cX7_byteAt 17 = .ok (.iconst (-1), 1) := by decide +kernel
theorem dX7_byteAt_18 : decode cX7_byteAt 18 = .ok (.ireturn, 1) := by decide +kernel
theorem dX7_isLetter_0 : decode cX7_isLetter 0 = .ok (.iload_n 0, 1) := by decide +kernel
theorem dX7_isLetter_1 : decode cX7_isLetter 1 = .ok (.bipush 97, 2) := by decide +kernel
theorem dX7_isLetter_3 : decode cX7_isLetter 3 = .ok (.bipush 122, 2) := by decide +kernel
theorem dX7_isLetter_5 : decode cX7_isLetter 5 = .ok (.invokestatic 78, 3) := by decide +kernel
theorem dX7_isLetter_8 : decode cX7_isLetter 8 = .ok (.ifCond .ne 9, 3) := by decide +kernel
theorem dX7_isLetter_11 : decode cX7_isLetter 11 = .ok (.iload_n 0, 1) := by decide +kernel
theorem dX7_isLetter_12 : decode cX7_isLetter 12 = .ok (.bipush 46, 2) := by decide +kernel
theorem dX7_isLetter_14 : decode cX7_isLetter 14 = .ok (.if_icmp .ne 7, 3) := by decide +kernel
theorem dX7_isLetter_17 : decode cX7_isLetter 17 = .ok (.iconst 1, 1) := by decide +kernel
theorem dX7_isLetter_18 : decode cX7_isLetter 18 = .ok (.goto 4, 3) := by decide +kernel
theorem dX7_isLetter_21 : decode cX7_isLetter 21 = .ok (.iconst 0, 1) := by decide +kernel
theorem dX7_isLetter_22 : decode cX7_isLetter 22 = .ok (.ireturn, 1) := by decide +kernel
theorem dX7_advances_0 : decode cX7_advances 0 = .ok (.aload_n 0, 1) := by decide +kernel
theorem dX7_advances_1 : decode cX7_advances 1 = .ok (.aload_n 0, 1) := by decide +kernel
theorem dX7_advances_2 : decode cX7_advances 2 = .ok (.getfield 95, 3) := by decide +kernel
theorem dX7_advances_5 : decode cX7_advances 5 = .ok (.invokevirtual 98, 3) := by decide +kernel
theorem dX7_advances_8 : decode cX7_advances 8 = .ok (.bipush 32, 2) := by decide +kernel
theorem dX7_advances_10 : decode cX7_advances 10 = .ok (.if_icmp .ne 16, 3) := by decide +kernel
theorem dX7_advances_13 : decode cX7_advances 13 = .ok (.aload_n 0, 1) := by decide +kernel
theorem dX7_advances_14 : decode cX7_advances 14 = .ok (.dup, 1) := by decide +kernel
theorem dX7_advances_15 : decode cX7_advances 15 = .ok (.getfield 95, 3) := by decide +kernel
theorem dX7_advances_18 : decode cX7_advances 18 = .ok (.iconst 1, 1) := by decide +kernel
theorem dX7_advances_19 : decode cX7_advances 19 = .ok (.iadd, 1) := by decide +kernel
theorem dX7_advances_20 : decode cX7_advances 20 = .ok (.putfield 95, 3) := by decide +kernel
theorem dX7_advances_23 : decode cX7_advances 23 = .ok (.goto (-23), 3) := by decide +kernel
theorem dX7_advances_26 : decode cX7_advances 26 = .ok (.aload_n 0, 1) := by decide +kernel
theorem dX7_advances_27 : decode cX7_advances 27 = .ok (.aload_n 0, 1) := by decide +kernel
theorem dX7_advances_28 : decode cX7_advances 28 = .ok (.getfield 95, 3) := by decide +kernel
theorem dX7_advances_31 : decode cX7_advances 31 = .ok (.putfield 101, 3) := by decide +kernel
theorem dX7_advances_34 : decode cX7_advances 34 = .ok (.aload_n 0, 1) := by decide +kernel
theorem dX7_advances_35 : decode cX7_advances 35 = .ok (.aload_n 0, 1) := by decide +kernel
theorem dX7_advances_36 : decode cX7_advances 36 = .ok (.getfield 95, 3) := by decide +kernel
theorem dX7_advances_39 : decode cX7_advances 39 = .ok (.invokevirtual 98, 3) := by decide +kernel
theorem dX7_advances_42 : decode cX7_advances 42 = .ok (.istore_n 1, 1) := by decide +kernel
theorem dX7_advances_43 : decode cX7_advances 43 = .ok (.iload_n 1, 1) := by decide +kernel
theorem dX7_advances_44 : decode cX7_advances 44 = .ok (.ifCond .ge 11, 3) := by decide +kernel
theorem dX7_advances_47 : decode cX7_advances 47 = .ok (.aload_n 0, 1) := by decide +kernel
theorem dX7_advances_48 : decode cX7_advances 48 = .ok (.iconst 0, 1) := by decide +kernel
theorem dX7_advances_49 : decode cX7_advances 49 = .ok (.putfield 104, 3) := by decide +kernel
theorem dX7_advances_52 : decode cX7_advances 52 = .ok (.goto 196, 3) := by decide +kernel
theorem dX7_advances_55 : decode cX7_advances 55 = .ok (.iload_n 1, 1) := by decide +kernel
theorem dX7_advances_56 : decode cX7_advances 56 = .ok (.invokestatic 107, 3) := by decide +kernel
theorem dX7_advances_59 : decode cX7_advances 59 = .ok (.ifCond .eq 38, 3) := by decide +kernel
theorem dX7_advances_62 : decode cX7_advances 62 = .ok (.aload_n 0, 1) := by decide +kernel
theorem dX7_advances_63 : decode cX7_advances 63 = .ok (.aload_n 0, 1) := by decide +kernel
theorem dX7_advances_64 : decode cX7_advances 64 = .ok (.getfield 95, 3) := by decide +kernel
theorem dX7_advances_67 : decode cX7_advances 67 = .ok (.invokevirtual 98, 3) := by decide +kernel
theorem dX7_advances_70 : decode cX7_advances 70 = .ok (.invokestatic 107, 3) := by decide +kernel
theorem dX7_advances_73 : decode cX7_advances 73 = .ok (.ifCond .eq 16, 3) := by decide +kernel
theorem dX7_advances_76 : decode cX7_advances 76 = .ok (.aload_n 0, 1) := by decide +kernel
theorem dX7_advances_77 : decode cX7_advances 77 = .ok (.dup, 1) := by decide +kernel
theorem dX7_advances_78 : decode cX7_advances 78 = .ok (.getfield 95, 3) := by decide +kernel
theorem dX7_advances_81 : decode cX7_advances 81 = .ok (.iconst 1, 1) := by decide +kernel
theorem dX7_advances_82 : decode cX7_advances 82 = .ok (.iadd, 1) := by decide +kernel
theorem dX7_advances_83 : decode cX7_advances 83 = .ok (.putfield 95, 3) := by decide +kernel
theorem dX7_advances_86 : decode cX7_advances 86 = .ok (.goto (-24), 3) := by decide +kernel
theorem dX7_advances_89 : decode cX7_advances 89 = .ok (.aload_n 0, 1) := by decide +kernel
theorem dX7_advances_90 : decode cX7_advances 90 = .ok (.iconst 1, 1) := by decide +kernel
theorem dX7_advances_91 : decode cX7_advances 91 = .ok (.putfield 104, 3) := by decide +kernel
theorem dX7_advances_94 : decode cX7_advances 94 = .ok (.goto 154, 3) := by decide +kernel
theorem dX7_advances_97 : decode cX7_advances 97 = .ok (.iload_n 1, 1) := by decide +kernel
theorem dX7_advances_98 : decode cX7_advances 98 = .ok (.bipush 48, 2) := by decide +kernel
theorem dX7_advances_100 : decode cX7_advances 100 = .ok (.bipush 57, 2) := by decide +kernel
theorem dX7_advances_102 : decode cX7_advances 102 = .ok (.invokestatic 78, 3) := by decide +kernel
theorem dX7_advances_105 : decode cX7_advances 105 = .ok (.ifCond .eq 118, 3) := by decide +kernel
theorem dX7_advances_108 : decode cX7_advances 108 = .ok (.aload_n 0, 1) := by decide +kernel
theorem dX7_advances_109 : decode cX7_advances 109 = .ok (.iconst 0, 1) := by decide +kernel
theorem dX7_advances_110 : decode cX7_advances 110 = .ok (.putfield 110, 3) := by decide +kernel
theorem dX7_advances_113 : decode cX7_advances 113 = .ok (.aload_n 0, 1) := by decide +kernel
theorem dX7_advances_114 : decode cX7_advances 114 = .ok (.aload_n 0, 1) := by decide +kernel
theorem dX7_advances_115 : decode cX7_advances 115 = .ok (.getfield 95, 3) := by decide +kernel
theorem dX7_advances_118 : decode cX7_advances 118 = .ok (.invokevirtual 98, 3) := by decide +kernel
theorem dX7_advances_121 : decode cX7_advances 121 = .ok (.bipush 48, 2) := by decide +kernel
theorem dX7_advances_123 : decode cX7_advances 123 = .ok (.bipush 57, 2) := by decide +kernel
theorem dX7_advances_125 : decode cX7_advances 125 = .ok (.invokestatic 78, 3) := by decide +kernel
theorem dX7_advances_128 : decode cX7_advances 128 = .ok (.ifCond .eq 55, 3) := by decide +kernel
theorem dX7_advances_131 : decode cX7_advances 131 = .ok (.aload_n 0, 1) := by decide +kernel
theorem dX7_advances_132 : decode cX7_advances 132 = .ok (.aload_n 0, 1) := by decide +kernel
theorem dX7_advances_133 : decode cX7_advances 133 = .ok (.getfield 110, 3) := by decide +kernel
theorem dX7_advances_136 : decode cX7_advances 136 = .ok (.bipush 99, 2) := by decide +kernel
theorem dX7_advances_138 : decode cX7_advances 138 = .ok (.if_icmp .le 10, 3) := by decide +kernel
theorem dX7_advances_141 : decode cX7_advances 141 = .ok (.aload_n 0, 1) := by decide +kernel
theorem dX7_advances_142 : decode cX7_advances 142 = .ok (.getfield 110, 3) := by decide +kernel
theorem dX7_advances_145 : decode cX7_advances 145 = .ok (.goto 22, 3) := by decide +kernel
theorem dX7_advances_148 : decode cX7_advances 148 = .ok (.bipush 10, 2) := by decide +kernel
theorem dX7_advances_150 : decode cX7_advances 150 = .ok (.aload_n 0, 1) := by decide +kernel
theorem dX7_advances_151 : decode cX7_advances 151 = .ok (.getfield 110, 3) := by decide +kernel
theorem dX7_advances_154 : decode cX7_advances 154 = .ok (.imul, 1) := by decide +kernel
theorem dX7_advances_155 : decode cX7_advances 155 = .ok (.aload_n 0, 1) := by decide +kernel
theorem dX7_advances_156 : decode cX7_advances 156 = .ok (.aload_n 0, 1) := by decide +kernel
theorem dX7_advances_157 : decode cX7_advances 157 = .ok (.getfield 95, 3) := by decide +kernel
theorem dX7_advances_160 : decode cX7_advances 160 = .ok (.invokevirtual 98, 3) := by decide +kernel
theorem dX7_advances_163 : decode cX7_advances 163 = .ok (.iadd, 1) := by decide +kernel
theorem dX7_advances_164 : decode cX7_advances 164 = .ok (.bipush 48, 2) := by decide +kernel
theorem dX7_advances_166 : decode cX7_advances 166 = .ok (.isub, 1) := by decide +kernel
theorem dX7_advances_167 : decode cX7_advances 167 = .ok (.putfield 110, 3) := by decide +kernel
theorem dX7_advances_170 : decode cX7_advances 170 = .ok (.aload_n 0, 1) := by decide +kernel
theorem dX7_advances_171 : decode cX7_advances 171 = .ok (.dup, 1) := by decide +kernel
theorem dX7_advances_172 : decode cX7_advances 172 = .ok (.getfield 95, 3) := by decide +kernel
theorem dX7_advances_175 : decode cX7_advances 175 = .ok (.iconst 1, 1) := by decide +kernel
theorem dX7_advances_176 : decode cX7_advances 176 = .ok (.iadd, 1) := by decide +kernel
theorem dX7_advances_177 : decode cX7_advances 177 = .ok (.putfield 95, 3) := by decide +kernel
theorem dX7_advances_180 : decode cX7_advances 180 = .ok (.goto (-67), 3) := by decide +kernel
theorem dX7_advances_183 : decode cX7_advances 183 = .ok (.aload_n 0, 1) := by decide +kernel
theorem dX7_advances_184 : decode cX7_advances 184 = .ok (.aload_n 0, 1) := by decide +kernel
theorem dX7_advances_185 : decode cX7_advances 185 = .ok (.getfield 110, 3) := by decide +kernel
theorem dX7_advances_188 : decode cX7_advances 188 = .ok (.bipush 99, 2) := by decide +kernel
theorem dX7_advances_190 : decode cX7_advances 190 = .ok (.if_icmp .gt 22, 3) := by decide +kernel
theorem dX7_advances_193 : decode cX7_advances 193 = .ok (.iload_n 1, 1) := by decide +kernel
theorem dX7_advances_194 : decode cX7_advances 194 = .ok (.bipush 48, 2) := by decide +kernel
theorem dX7_advances_196 : decode cX7_advances 196 = .ok (.if_icmp .ne 20, 3) := by decide +kernel
theorem dX7_advances_199 : decode cX7_advances 199 = .ok (.aload_n 0, 1) := by decide +kernel
theorem dX7_advances_200 : decode cX7_advances 200 = .ok (.getfield 95, 3) := by decide +kernel
theorem dX7_advances_203 : decode cX7_advances 203 = .ok (.aload_n 0, 1) := by decide +kernel
theorem dX7_advances_204 : decode cX7_advances 204 = .ok (.getfield 101, 3) := by decide +kernel
theorem dX7_advances_207 : decode cX7_advances 207 = .ok (.isub, 1) := by decide +kernel
theorem dX7_advances_208 : decode cX7_advances 208 = .ok (.iconst 1, 1) := by decide +kernel
theorem dX7_advances_209 : decode cX7_advances 209 = .ok (.if_icmp .le 7, 3) := by decide +kernel
theorem dX7_advances_212 : decode cX7_advances 212 = .ok (.iconst 4, 1) := by decide +kernel
theorem dX7_advances_213 : decode cX7_advances 213 = .ok (.goto 4, 3) := by decide +kernel
theorem dX7_advances_216 : decode cX7_advances 216 = .ok (.iconst 2, 1) := by decide +kernel
theorem dX7_advances_217 : decode cX7_advances 217 = .ok (.putfield 104, 3) := by decide +kernel
theorem dX7_advances_220 : decode cX7_advances 220 = .ok (.goto 28, 3) := by decide +kernel
theorem dX7_advances_223 : decode cX7_advances 223 = .ok (.aload_n 0, 1) := by decide +kernel
theorem dX7_advances_224 : decode cX7_advances 224 = .ok (.dup, 1) := by decide +kernel
theorem dX7_advances_225 : decode cX7_advances 225 = .ok (.getfield 95, 3) := by decide +kernel
theorem dX7_advances_228 : decode cX7_advances 228 = .ok (.iconst 1, 1) := by decide +kernel
theorem dX7_advances_229 : decode cX7_advances 229 = .ok (.iadd, 1) := by decide +kernel
theorem dX7_advances_230 : decode cX7_advances 230 = .ok (.putfield 95, 3) := by decide +kernel
theorem dX7_advances_233 : decode cX7_advances 233 = .ok (.aload_n 0, 1) := by decide +kernel
theorem dX7_advances_234 : decode cX7_advances 234 = .ok (.iload_n 1, 1) := by decide +kernel
theorem dX7_advances_235 : decode cX7_advances 235 = .ok (.bipush 59, 2) := by decide +kernel
theorem dX7_advances_237 : decode cX7_advances 237 = .ok (.if_icmp .ne 7, 3) := by decide +kernel
theorem dX7_advances_240 : decode cX7_advances 240 = .ok (.iconst 3, 1) := by decide +kernel
theorem dX7_advances_241 : decode cX7_advances 241 = .ok (.goto 4, 3) := by decide +kernel
theorem dX7_advances_244 : decode cX7_advances 244 = .ok (.iconst 4, 1) := by decide +kernel
theorem dX7_advances_245 : decode cX7_advances 245 = .ok (.putfield 104, 3) := by decide +kernel
theorem dX7_advances_248 : decode cX7_advances 248 = .ok (.return_, 1) := by decide +kernel
theorem dX7_isWell_0 : decode cX7_isWell 0 = .ok (.aload_n 0, 1) := by decide +kernel
theorem dX7_isWell_1 : decode cX7_isWell 1 = .ok (.getfield 113, 3) := by decide +kernel
theorem dX7_isWell_4 : decode cX7_isWell 4 = .ok (.ifCond .ge 7, 3) := by decide +kernel
theorem dX7_isWell_7 : decode cX7_isWell 7 = .ok (.iconst 1, 1) := by decide +kernel
theorem dX7_isWell_8 : decode cX7_isWell 8 = .ok (.goto 4, 3) := by decide +kernel
theorem dX7_isWell_11 : decode cX7_isWell 11 = .ok (.iconst 0, 1) := by decide +kernel
theorem dX7_isWell_12 : decode cX7_isWell 12 = .ok (.ireturn, 1) := by decide +kernel
theorem dX7_fails_0 : decode cX7_fails 0 = .ok (.aload_n 0, 1) := by decide +kernel
theorem dX7_fails_1 : decode cX7_fails 1 = .ok (.aload_n 0, 1) := by decide +kernel
theorem dX7_fails_2 : decode cX7_fails 2 = .ok (.getfield 113, 3) := by decide +kernel
theorem dX7_fails_5 : decode cX7_fails 5 = .ok (.ifCond .ge 10, 3) := by decide +kernel
theorem dX7_fails_8 : decode cX7_fails 8 = .ok (.aload_n 0, 1) := by decide +kernel
theorem dX7_fails_9 : decode cX7_fails 9 = .ok (.getfield 101, 3) := by decide +kernel
theorem dX7_fails_12 : decode cX7_fails 12 = .ok (.goto 7, 3) := by decide +kernel
theorem dX7_fails_15 : decode cX7_fails 15 = .ok (.aload_n 0, 1) := by decide +kernel
theorem dX7_fails_16 : decode cX7_fails 16 = .ok (.getfield 113, 3) := by decide +kernel
theorem dX7_fails_19 : decode cX7_fails 19 = .ok (.putfield 113, 3) := by decide +kernel
theorem dX7_fails_22 : decode cX7_fails 22 = .ok (.return_, 1) := by decide +kernel
theorem dX7_isWord_0 : decode cX7_isWord 0 = .ok (.iload 4, 2) := by decide +kernel
theorem dX7_isWord_2 : decode cX7_isWord 2 = .ok (.ifCond .ne 7, 3) := by decide +kernel
theorem dX7_isWord_5 : decode cX7_isWord 5 = .ok (.iconst 3, 1) := by decide +kernel
theorem dX7_isWord_6 : decode cX7_isWord 6 = .ok (.goto 4, 3) := by decide +kernel
theorem dX7_isWord_9 : decode cX7_isWord 9 = .ok (.iconst 4, 1) := by decide +kernel
theorem dX7_isWord_10 : decode cX7_isWord 10 = .ok (.istore 5, 2) := by decide +kernel
theorem dX7_isWord_12 : decode cX7_isWord 12 = .ok (.aload_n 0, 1) := by decide +kernel
theorem dX7_isWord_13 : decode cX7_isWord 13 = .ok (.getfield 104, 3) := by decide +kernel
theorem dX7_isWord_16 : decode cX7_isWord 16 = .ok (.iconst 1, 1) := by decide +kernel
theorem dX7_isWord_17 : decode cX7_isWord 17 = .ok (.if_icmp .ne 85, 3) := by decide +kernel
theorem dX7_isWord_20 : decode cX7_isWord 20 = .ok (.aload_n 0, 1) := by decide +kernel
theorem dX7_isWord_21 : decode cX7_isWord 21 = .ok (.getfield 95, 3) := by decide +kernel
theorem dX7_isWord_24 : decode cX7_isWord 24 = .ok (.aload_n 0, 1) := by decide +kernel
theorem dX7_isWord_25 : decode cX7_isWord 25 = .ok (.getfield 101, 3) := by decide +kernel
theorem dX7_isWord_28 : decode cX7_isWord 28 = .ok (.isub, 1) := by decide +kernel
theorem dX7_isWord_29 : decode cX7_isWord 29 = .ok (.iload 5, 2) := by decide +kernel
theorem dX7_isWord_31 : decode cX7_isWord 31 = .ok (.if_icmp .ne 71, 3) := by decide +kernel
theorem dX7_isWord_34 : decode cX7_isWord 34 = .ok (.aload_n 0, 1) := by decide +kernel
theorem dX7_isWord_35 : decode cX7_isWord 35 = .ok (.getfield 26, 3) := by decide +kernel
theorem dX7_isWord_38 : decode cX7_isWord 38 = .ok (.aload_n 0, 1) := by decide +kernel
theorem dX7_isWord_39 : decode cX7_isWord 39 = .ok (.getfield 101, 3) := by decide +kernel
theorem dX7_isWord_42 : decode cX7_isWord 42 = .ok (.iaload, 1) := by decide +kernel
theorem dX7_isWord_43 : decode cX7_isWord 43 = .ok (.iload_n 1, 1) := by decide +kernel
theorem dX7_isWord_44 : decode cX7_isWord 44 = .ok (.if_icmp .ne 58, 3) := by decide +kernel
theorem dX7_isWord_47 : decode cX7_isWord 47 = .ok (.aload_n 0, 1) := by decide +kernel
theorem dX7_isWord_48 : decode cX7_isWord 48 = .ok (.getfield 26, 3) := by decide +kernel
theorem dX7_isWord_51 : decode cX7_isWord 51 = .ok (.aload_n 0, 1) := by decide +kernel
theorem dX7_isWord_52 : decode cX7_isWord 52 = .ok (.getfield 101, 3) := by decide +kernel
theorem dX7_isWord_55 : decode cX7_isWord 55 = .ok (.iconst 1, 1) := by decide +kernel
theorem dX7_isWord_56 : decode cX7_isWord 56 = .ok (.iadd, 1) := by decide +kernel
theorem dX7_isWord_57 : decode cX7_isWord 57 = .ok (.iaload, 1) := by decide +kernel
theorem dX7_isWord_58 : decode cX7_isWord 58 = .ok (.iload_n 2, 1) := by decide +kernel
theorem dX7_isWord_59 : decode cX7_isWord 59 = .ok (.if_icmp .ne 43, 3) := by decide +kernel
theorem dX7_isWord_62 : decode cX7_isWord 62 = .ok (.aload_n 0, 1) := by decide +kernel
theorem dX7_isWord_63 : decode cX7_isWord 63 = .ok (.getfield 26, 3) := by decide +kernel
theorem dX7_isWord_66 : decode cX7_isWord 66 = .ok (.aload_n 0, 1) := by decide +kernel
theorem dX7_isWord_67 : decode cX7_isWord 67 = .ok (.getfield 101, 3) := by decide +kernel
theorem dX7_isWord_70 : decode cX7_isWord 70 = .ok (.iconst 2, 1) := by decide +kernel
theorem dX7_isWord_71 : decode cX7_isWord 71 = .ok (.iadd, 1) := by decide +kernel
theorem dX7_isWord_72 : decode cX7_isWord 72 = .ok (.iaload, 1) := by decide +kernel
theorem dX7_isWord_73 : decode cX7_isWord 73 = .ok (.iload_n 3, 1) := by decide +kernel
theorem dX7_isWord_74 : decode cX7_isWord 74 = .ok (.if_icmp .ne 28, 3) := by decide +kernel
theorem dX7_isWord_77 : decode cX7_isWord 77 = .ok (.iload 4, 2) := by decide +kernel
theorem dX7_isWord_79 : decode cX7_isWord 79 = .ok (.ifCond .eq 19, 3) := by decide +kernel
theorem dX7_isWord_82 : decode cX7_isWord 82 = .ok (.aload_n 0, 1) := by decide +kernel
theorem dX7_isWord_83 : decode cX7_isWord 83 = .ok (.getfield 26, 3) := by decide +kernel
theorem dX7_isWord_86 : decode cX7_isWord 86 = .ok (.aload_n 0, 1) := by decide +kernel
theorem dX7_isWord_87 : decode cX7_isWord 87 = .ok (.getfield 101, 3) := by decide +kernel
theorem dX7_isWord_90 : decode cX7_isWord 90 = .ok (.iconst 3, 1) := by decide +kernel
theorem dX7_isWord_91 : decode cX7_isWord 91 = .ok (.iadd, 1) := by decide +kernel
theorem dX7_isWord_92 : decode cX7_isWord 92 = .ok (.iaload, 1) := by decide +kernel
theorem dX7_isWord_93 : decode cX7_isWord 93 = .ok (.iload 4, 2) := by decide +kernel
theorem dX7_isWord_95 : decode cX7_isWord 95 = .ok (.if_icmp .ne 7, 3) := by decide +kernel
theorem dX7_isWord_98 : decode cX7_isWord 98 = .ok (.iconst 1, 1) := by decide +kernel
theorem dX7_isWord_99 : decode cX7_isWord 99 = .ok (.goto 4, 3) := by decide +kernel
theorem dX7_isWord_102 : decode cX7_isWord 102 = .ok (.iconst 0, 1) := by decide +kernel
theorem dX7_isWord_103 : decode cX7_isWord 103 = .ok (.ireturn, 1) := by decide +kernel
theorem dX7_takesNumber_0 : decode cX7_takesNumber 0 = .ok (.aload_n 0, 1) := by decide +kernel
theorem dX7_takesNumber_1 : decode cX7_takesNumber 1 = .ok (.invokevirtual 116, 3) := by decide +kernel
theorem dX7_takesNumber_4 : decode cX7_takesNumber 4 = .ok (.ifCond .eq 23, 3) := by decide +kernel
theorem dX7_takesNumber_7 : decode cX7_takesNumber 7 = .ok (.aload_n 0, 1) := by decide +kernel
theorem dX7_takesNumber_8 : decode cX7_takesNumber 8 = .ok (.getfield 104, 3) := by decide +kernel
theorem dX7_takesNumber_11 : decode cX7_takesNumber 11 = .ok (.iconst 2, 1) := by decide +kernel
theorem dX7_takesNumber_12 : decode cX7_takesNumber 12 = .ok (.if_icmp .ne 15, 3) := by decide +kernel
theorem dX7_takesNumber_15 : decode cX7_takesNumber 15 = .ok (.aload_n 0, 1) := by decide +kernel
theorem dX7_takesNumber_16 : decode cX7_takesNumber 16 = .ok (.getfield 110, 3) := by decide +kernel
theorem dX7_takesNumber_19 : decode cX7_takesNumber 19 = .ok (.iload_n 1, 1) := by decide +kernel
theorem dX7_takesNumber_20 : decode cX7_takesNumber 20 = .ok (.iload_n 2, 1) := by decide +kernel
theorem dX7_takesNumber_21 : decode cX7_takesNumber 21 = .ok (.invokestatic 78, 3) := by decide +kernel
theorem dX7_takesNumber_24 : decode cX7_takesNumber 24 = .ok (.ifCond .ne 9, 3) := by decide +kernel
theorem dX7_takesNumber_27 : decode cX7_takesNumber 27 = .ok (.aload_n 0, 1) := by decide +kernel
theorem dX7_takesNumber_28 : decode cX7_takesNumber 28 = .ok (.invokevirtual 120, 3) := by decide +kernel
theorem dX7_takesNumber_31 : decode cX7_takesNumber 31 = .ok (.iconst 0, 1) := by decide +kernel
theorem dX7_takesNumber_32 : decode cX7_takesNumber 32 = .ok (.ireturn, 1) := by decide +kernel
theorem dX7_takesNumber_33 : decode cX7_takesNumber 33 = .ok (.aload_n 0, 1) := by decide +kernel
theorem dX7_takesNumber_34 : decode cX7_takesNumber 34 = .ok (.getfield 110, 3) := by decide +kernel
theorem dX7_takesNumber_37 : decode cX7_takesNumber 37 = .ok (.istore_n 3, 1) := by decide +kernel
theorem dX7_takesNumber_38 : decode cX7_takesNumber 38 = .ok (.aload_n 0, 1) := by decide +kernel
theorem dX7_takesNumber_39 : decode cX7_takesNumber 39 = .ok (.invokevirtual 123, 3) := by decide +kernel
theorem dX7_takesNumber_42 : decode cX7_takesNumber 42 = .ok (.iload_n 3, 1) := by decide +kernel
theorem dX7_takesNumber_43 : decode cX7_takesNumber 43 = .ok (.ireturn, 1) := by decide +kernel
theorem dX7_readsZone_0 : decode cX7_readsZone 0 = .ok (.aload_n 0, 1) := by decide +kernel
theorem dX7_readsZone_1 : decode cX7_readsZone 1 = .ok (.invokevirtual 123, 3) := by decide +kernel
theorem dX7_readsZone_4 : decode cX7_readsZone 4 = .ok (.aload_n 0, 1) := by decide +kernel
theorem dX7_readsZone_5 : decode cX7_readsZone 5 = .ok (.invokevirtual 116, 3) := by decide +kernel
theorem dX7_readsZone_8 : decode cX7_readsZone 8 = .ok (.ifCond .eq 43, 3) := by decide +kernel
theorem dX7_readsZone_11 : decode cX7_readsZone 11 = .ok (.aload_n 0, 1) := by decide +kernel
theorem dX7_readsZone_12 : decode cX7_readsZone 12 = .ok (.getfield 104, 3) := by decide +kernel
theorem dX7_readsZone_15 : decode cX7_readsZone 15 = .ok (.iconst 1, 1) := by decide +kernel
theorem dX7_readsZone_16 : decode cX7_readsZone 16 = .ok (.if_icmp .ne 35, 3) := by decide +kernel
theorem dX7_readsZone_19 : decode cX7_readsZone 19 = .ok (.aload_n 0, 1) := by decide +kernel
theorem dX7_readsZone_20 : decode cX7_readsZone 20 = .ok (.getfield 95, 3) := by decide +kernel
theorem dX7_readsZone_23 : decode cX7_readsZone 23 = .ok (.aload_n 0, 1) := by decide +kernel
theorem dX7_readsZone_24 : decode cX7_readsZone 24 = .ok (.getfield 101, 3) := by decide +kernel
theorem dX7_readsZone_27 : decode cX7_readsZone 27 = .ok (.isub, 1) := by decide +kernel
theorem dX7_readsZone_28 : decode cX7_readsZone 28 = .ok (.iconst 1, 1) := by decide +kernel
theorem dX7_readsZone_29 : decode cX7_readsZone 29 = .ok (.if_icmp .ne 22, 3) := by decide +kernel
theorem dX7_readsZone_32 : decode cX7_readsZone 32 = .ok (.aload_n 0, 1) := by decide +kernel
theorem dX7_readsZone_33 : decode cX7_readsZone 33 = .ok (.getfield 26, 3) := by decide +kernel
theorem dX7_readsZone_36 : decode cX7_readsZone 36 = .ok (.aload_n 0, 1) := by decide +kernel
theorem dX7_readsZone_37 : decode cX7_readsZone 37 = .ok (.getfield 101, 3) := by decide +kernel
theorem dX7_readsZone_40 : decode cX7_readsZone 40 = .ok (.iaload, 1) := by decide +kernel
theorem dX7_readsZone_41 : decode cX7_readsZone 41 = .ok (.bipush 97, 2) := by decide +kernel
theorem dX7_readsZone_43 : decode cX7_readsZone 43 = .ok (.bipush 102, 2) := by decide +kernel
theorem dX7_readsZone_45 : decode cX7_readsZone 45 = .ok (.invokestatic 78, 3) := by decide +kernel
theorem dX7_readsZone_48 : decode cX7_readsZone 48 = .ok (.ifCond .ne 8, 3) := by decide +kernel
theorem dX7_readsZone_51 : decode cX7_readsZone 51 = .ok (.aload_n 0, 1) := by decide +kernel
theorem dX7_readsZone_52 : decode cX7_readsZone 52 = .ok (.invokevirtual 120, 3) := by decide +kernel
theorem dX7_readsZone_55 : decode cX7_readsZone 55 = .ok (.return_, 1) := by decide +kernel
theorem dX7_readsZone_56 : decode cX7_readsZone 56 = .ok (.aload_n 0, 1) := by decide +kernel
theorem dX7_readsZone_57 : decode cX7_readsZone 57 = .ok (.getfield 26, 3) := by decide +kernel
theorem dX7_readsZone_60 : decode cX7_readsZone 60 = .ok (.aload_n 0, 1) := by decide +kernel
theorem dX7_readsZone_61 : decode cX7_readsZone 61 = .ok (.getfield 101, 3) := by decide +kernel
theorem dX7_readsZone_64 : decode cX7_readsZone 64 = .ok (.iaload, 1) := by decide +kernel
theorem dX7_readsZone_65 : decode cX7_readsZone 65 = .ok (.bipush 97, 2) := by decide +kernel
theorem dX7_readsZone_67 : decode cX7_readsZone 67 = .ok (.isub, 1) := by decide +kernel
theorem dX7_readsZone_68 : decode cX7_readsZone 68 = .ok (.istore_n 1, 1) := by decide +kernel
theorem dX7_readsZone_69 : decode cX7_readsZone 69 = .ok (.aload_n 0, 1) := by decide +kernel
theorem dX7_readsZone_70 : decode cX7_readsZone 70 = .ok (.invokevirtual 123, 3) := by decide +kernel
theorem dX7_readsZone_73 : decode cX7_readsZone 73 = .ok (.iconst 0, 1) := by decide +kernel
theorem dX7_readsZone_74 : decode cX7_readsZone 74 = .ok (.istore_n 2, 1) := by decide +kernel
theorem dX7_readsZone_75 : decode cX7_readsZone 75 = .ok (.iload_n 2, 1) := by decide +kernel
theorem dX7_readsZone_76 : decode cX7_readsZone 76 = .ok (.iconst 3, 1) := by decide +kernel
theorem dX7_readsZone_77 : decode cX7_readsZone 77 = .ok (.if_icmp .ge 30, 3) := by decide +kernel
theorem dX7_readsZone_80 : decode cX7_readsZone 80 = .ok (.aload_n 0, 1) := by decide +kernel
theorem dX7_readsZone_81 : decode cX7_readsZone 81 = .ok (.getfield 23, 3) := by decide +kernel
theorem dX7_readsZone_84 : decode cX7_readsZone 84 = .ok (.bipush 48, 2) := by decide +kernel
theorem dX7_readsZone_86 : decode cX7_readsZone 86 = .ok (.bipush 6, 2) := by decide +kernel
theorem dX7_readsZone_88 : decode cX7_readsZone 88 = .ok (.iload_n 2, 1) := by decide +kernel
theorem dX7_readsZone_89 : decode cX7_readsZone 89 = .ok (.imul, 1) := by decide +kernel
theorem dX7_readsZone_90 : decode cX7_readsZone 90 = .ok (.iadd, 1) := by decide +kernel
theorem dX7_readsZone_91 : decode cX7_readsZone 91 = .ok (.iload_n 1, 1) := by decide +kernel
theorem dX7_readsZone_92 : decode cX7_readsZone 92 = .ok (.iadd, 1) := by decide +kernel
theorem dX7_readsZone_93 : decode cX7_readsZone 93 = .ok (.aload_n 0, 1) := by decide +kernel
theorem dX7_readsZone_94 : decode cX7_readsZone 94 = .ok (.iconst 1, 1) := by decide +kernel
theorem dX7_readsZone_95 : decode cX7_readsZone 95 = .ok (.bipush 99, 2) := by decide +kernel
theorem dX7_readsZone_97 : decode cX7_readsZone 97 = .ok (.invokevirtual 126, 3) := by decide +kernel
theorem dX7_readsZone_100 : decode cX7_readsZone 100 = .ok (.iastore, 1) := by decide +kernel
theorem dX7_readsZone_101 : decode cX7_readsZone 101 = .ok (.iinc 2 1, 3) := by decide +kernel
theorem dX7_readsZone_104 : decode cX7_readsZone 104 = .ok (.goto (-29), 3) := by decide +kernel
theorem dX7_readsZone_107 : decode cX7_readsZone 107 = .ok (.return_, 1) := by decide +kernel
theorem dX7_readsRow_0 : decode cX7_readsRow 0 = .ok (.aload_n 0, 1) := by decide +kernel
theorem dX7_readsRow_1 : decode cX7_readsRow 1 = .ok (.invokevirtual 123, 3) := by decide +kernel
theorem dX7_readsRow_4 : decode cX7_readsRow 4 = .ok (.aload_n 0, 1) := by decide +kernel
theorem dX7_readsRow_5 : decode cX7_readsRow 5 = .ok (.iconst 0, 1) := by decide +kernel
theorem dX7_readsRow_6 : decode cX7_readsRow 6 = .ok (.iconst 5, 1) := by decide +kernel
theorem dX7_readsRow_7 : decode cX7_readsRow 7 = .ok (.invokevirtual 126, 3) := by decide +kernel
theorem dX7_readsRow_10 : decode cX7_readsRow 10 = .ok (.istore_n 1, 1) := by decide +kernel
theorem dX7_readsRow_11 : decode cX7_readsRow 11 = .ok (.aload_n 0, 1) := by decide +kernel
theorem dX7_readsRow_12 : decode cX7_readsRow 12 = .ok (.invokevirtual 116, 3) := by decide +kernel
theorem dX7_readsRow_15 : decode cX7_readsRow 15 = .ok (.ifCond .eq 29, 3) := by decide +kernel
theorem dX7_readsRow_18 : decode cX7_readsRow 18 = .ok (.aload_n 0, 1) := by decide +kernel
theorem dX7_readsRow_19 : decode cX7_readsRow 19 = .ok (.getfield 104, 3) := by decide +kernel
theorem dX7_readsRow_22 : decode cX7_readsRow 22 = .ok (.iconst 1, 1) := by decide +kernel
theorem dX7_readsRow_23 : decode cX7_readsRow 23 = .ok (.if_icmp .ne 21, 3) := by decide +kernel
theorem dX7_readsRow_26 : decode cX7_readsRow 26 = .ok (.aload_n 0, 1) := by decide +kernel
theorem dX7_readsRow_27 : decode cX7_readsRow 27 = .ok (.getfield 95, 3) := by decide +kernel
theorem dX7_readsRow_30 : decode cX7_readsRow 30 = .ok (.aload_n 0, 1) := by decide +kernel
theorem dX7_readsRow_31 : decode cX7_readsRow 31 = .ok (.getfield 101, 3) := by decide +kernel
theorem dX7_readsRow_34 : decode cX7_readsRow 34 = .ok (.isub, 1) := by decide +kernel
theorem dX7_readsRow_35 : decode cX7_readsRow 35 = .ok (.bipush 8, 2) := by decide +kernel
theorem dX7_readsRow_37 : decode cX7_readsRow 37 = .ok (.if_icmp .ne 7, 3) := by decide +kernel
theorem dX7_readsRow_40 : decode cX7_readsRow 40 = .ok (.iconst 1, 1) := by decide +kernel
theorem dX7_readsRow_41 : decode cX7_readsRow 41 = .ok (.goto 4, 3) := by decide +kernel
theorem dX7_readsRow_44 : decode cX7_readsRow 44 = .ok (.iconst 0, 1) := by decide +kernel
theorem dX7_readsRow_45 : decode cX7_readsRow 45 = .ok (.istore_n 2, 1) := by decide +kernel
theorem dX7_readsRow_46 : decode cX7_readsRow 46 = .ok (.iconst 0, 1) := by decide +kernel
theorem dX7_readsRow_47 : decode cX7_readsRow 47 = .ok (.istore_n 3, 1) := by decide +kernel
theorem dX7_readsRow_48 : decode cX7_readsRow 48 = .ok (.iload_n 3, 1) := by decide +kernel
theorem dX7_readsRow_49 : decode cX7_readsRow 49 = .ok (.bipush 8, 2) := by decide +kernel
theorem dX7_readsRow_51 : decode cX7_readsRow 51 = .ok (.if_icmp .ge 79, 3) := by decide +kernel
theorem dX7_readsRow_54 : decode cX7_readsRow 54 = .ok (.iload_n 2, 1) := by decide +kernel
theorem dX7_readsRow_55 : decode cX7_readsRow 55 = .ok (.ifCond .eq 75, 3) := by decide +kernel
theorem dX7_readsRow_58 : decode cX7_readsRow 58 = .ok (.aload_n 0, 1) := by decide +kernel
theorem dX7_readsRow_59 : decode cX7_readsRow 59 = .ok (.getfield 26, 3) := by decide +kernel
theorem dX7_readsRow_62 : decode cX7_readsRow 62 = .ok (.aload_n 0, 1) := by decide +kernel
theorem dX7_readsRow_63 : decode cX7_readsRow 63 = .ok (.getfield 101, 3) := by decide +kernel
theorem dX7_readsRow_66 : decode cX7_readsRow 66 = .ok (.iload_n 3, 1) := by decide +kernel
theorem dX7_readsRow_67 : decode cX7_readsRow 67 = .ok (.iadd, 1) := by decide +kernel
theorem dX7_readsRow_68 : decode cX7_readsRow 68 = .ok (.iaload, 1) := by decide +kernel
theorem dX7_readsRow_69 : decode cX7_readsRow 69 = .ok (.istore 4, 2) := by decide +kernel
theorem dX7_readsRow_71 : decode cX7_readsRow 71 = .ok (.iload 4, 2) := by decide +kernel
theorem dX7_readsRow_73 : decode cX7_readsRow 73 = .ok (.bipush 46, 2) := by decide +kernel
theorem dX7_readsRow_75 : decode cX7_readsRow 75 = .ok (.if_icmp .eq 15, 3) := by decide +kernel
theorem dX7_readsRow_78 : decode cX7_readsRow 78 = .ok (.iload 4, 2) := by decide +kernel
theorem dX7_readsRow_80 : decode cX7_readsRow 80 = .ok (.bipush 97, 2) := by decide +kernel
theorem dX7_readsRow_82 : decode cX7_readsRow 82 = .ok (.bipush 102, 2) := by decide +kernel
theorem dX7_readsRow_84 : decode cX7_readsRow 84 = .ok (.invokestatic 78, 3) := by decide +kernel
theorem dX7_readsRow_87 : decode cX7_readsRow 87 = .ok (.ifCond .eq 7, 3) := by decide +kernel
theorem dX7_readsRow_90 : decode cX7_readsRow 90 = .ok (.iconst 1, 1) := by decide +kernel
theorem dX7_readsRow_91 : decode cX7_readsRow 91 = .ok (.goto 4, 3) := by decide +kernel
theorem dX7_readsRow_94 : decode cX7_readsRow 94 = .ok (.iconst 0, 1) := by decide +kernel
theorem dX7_readsRow_95 : decode cX7_readsRow 95 = .ok (.istore_n 2, 1) := by decide +kernel
theorem dX7_readsRow_96 : decode cX7_readsRow 96 = .ok (.aload_n 0, 1) := by decide +kernel
theorem dX7_readsRow_97 : decode cX7_readsRow 97 = .ok (.getfield 23, 3) := by decide +kernel
theorem dX7_readsRow_100 : decode cX7_readsRow 100 = .ok (.bipush 8, 2) := by decide +kernel
theorem dX7_readsRow_102 : decode cX7_readsRow 102 = .ok (.iload_n 1, 1) := by decide +kernel
theorem dX7_readsRow_103 : decode cX7_readsRow 103 = .ok (.imul, 1) := by decide +kernel
theorem dX7_readsRow_104 : decode cX7_readsRow 104 = .ok (.iload_n 3, 1) := by decide +kernel
theorem dX7_readsRow_105 : decode cX7_readsRow 105 = .ok (.iadd, 1) := by decide +kernel
theorem dX7_readsRow_106 : decode cX7_readsRow 106 = .ok (.iload 4, 2) := by decide +kernel
theorem dX7_readsRow_108 : decode cX7_readsRow 108 = .ok (.bipush 46, 2) := by decide +kernel
theorem dX7_readsRow_110 : decode cX7_readsRow 110 = .ok (.if_icmp .ne 8, 3) := by decide +kernel
theorem dX7_readsRow_113 : decode cX7_readsRow 113 = .ok (.bipush (-9), 2) := by decide +kernel
theorem dX7_readsRow_115 : decode cX7_readsRow 115 = .ok (.goto 8, 3) := by decide +kernel
theorem dX7_readsRow_118 : decode cX7_readsRow 118 = .ok (.iload 4, 2) := by decide +kernel
theorem dX7_readsRow_120 : decode cX7_readsRow 120 = .ok (.bipush 97, 2) := by decide +kernel
theorem dX7_readsRow_122 : decode cX7_readsRow 122 = .ok (.isub, 1) := by decide +kernel
theorem dX7_readsRow_123 : decode cX7_readsRow 123 = .ok (.iastore, 1) := by decide +kernel
theorem dX7_readsRow_124 : decode cX7_readsRow 124 = .ok (.iinc 3 1, 3) := by decide +kernel
theorem dX7_readsRow_127 : decode cX7_readsRow 127 = .ok (.goto (-79), 3) := by decide +kernel
theorem dX7_readsRow_130 : decode cX7_readsRow 130 = .ok (.iload_n 2, 1) := by decide +kernel
theorem dX7_readsRow_131 : decode cX7_readsRow 131 = .ok (.ifCond .eq 10, 3) := by decide +kernel
theorem dX7_readsRow_134 : decode cX7_readsRow 134 = .ok (.aload_n 0, 1) := by decide +kernel
theorem dX7_readsRow_135 : decode cX7_readsRow 135 = .ok (.invokevirtual 123, 3) := by decide +kernel
theorem dX7_readsRow_138 : decode cX7_readsRow 138 = .ok (.goto 7, 3) := by decide +kernel
theorem dX7_readsRow_141 : decode cX7_readsRow 141 = .ok (.aload_n 0, 1) := by decide +kernel
theorem dX7_readsRow_142 : decode cX7_readsRow 142 = .ok (.invokevirtual 120, 3) := by decide +kernel
theorem dX7_readsRow_145 : decode cX7_readsRow 145 = .ok (.return_, 1) := by decide +kernel
theorem dX7_dam_0 : decode cX7_dam 0 = .ok (.aload_n 0, 1) := by decide +kernel
theorem dX7_dam_1 : decode cX7_dam 1 = .ok (.iconst 0, 1) := by decide +kernel
theorem dX7_dam_2 : decode cX7_dam 2 = .ok (.putfield 75, 3) := by decide +kernel
theorem dX7_dam_5 : decode cX7_dam 5 = .ok (.aload_n 0, 1) := by decide +kernel
theorem dX7_dam_6 : decode cX7_dam 6 = .ok (.iconst (-1), 1) := by decide +kernel
theorem dX7_dam_7 : decode cX7_dam 7 = .ok (.putfield 113, 3) := by decide +kernel
theorem dX7_dam_10 : decode cX7_dam 10 = .ok (.aload_n 0, 1) := by decide +kernel
theorem dX7_dam_11 : decode cX7_dam 11 = .ok (.iconst 0, 1) := by decide +kernel
theorem dX7_dam_12 : decode cX7_dam 12 = .ok (.putfield 95, 3) := by decide +kernel
theorem dX7_dam_15 : decode cX7_dam 15 = .ok (.iconst 0, 1) := by decide +kernel
theorem dX7_dam_16 : decode cX7_dam 16 = .ok (.istore_n 1, 1) := by decide +kernel
theorem dX7_dam_17 : decode cX7_dam 17 = .ok (.iconst 0, 1) := by decide +kernel
theorem dX7_dam_18 : decode cX7_dam 18 = .ok (.istore_n 2, 1) := by decide +kernel
theorem dX7_dam_19 : decode cX7_dam 19 = .ok (.iload_n 2, 1) := by decide +kernel
theorem dX7_dam_20 : decode cX7_dam 20 = .ok (.bipush 66, 2) := by decide +kernel
theorem dX7_dam_22 : decode cX7_dam 22 = .ok (.if_icmp .ge 28, 3) := by decide +kernel
theorem dX7_dam_25 : decode cX7_dam 25 = .ok (.aload_n 0, 1) := by decide +kernel
theorem dX7_dam_26 : decode cX7_dam 26 = .ok (.getfield 23, 3) := by decide +kernel
theorem dX7_dam_29 : decode cX7_dam 29 = .ok (.iload_n 2, 1) := by decide +kernel
theorem dX7_dam_30 : decode cX7_dam 30 = .ok (.iload_n 2, 1) := by decide +kernel
theorem dX7_dam_31 : decode cX7_dam 31 = .ok (.bipush 48, 2) := by decide +kernel
theorem dX7_dam_33 : decode cX7_dam 33 = .ok (.if_icmp .ge 8, 3) := by decide +kernel
theorem dX7_dam_36 : decode cX7_dam 36 = .ok (.bipush (-9), 2) := by decide +kernel
theorem dX7_dam_38 : decode cX7_dam 38 = .ok (.goto 5, 3) := by decide +kernel
theorem dX7_dam_41 : decode cX7_dam 41 = .ok (.bipush 10, 2) := by decide +kernel
theorem dX7_dam_43 : decode cX7_dam 43 = .ok (.iastore, 1) := by decide +kernel
theorem dX7_dam_44 : decode cX7_dam 44 = .ok (.iinc 2 1, 3) := by decide +kernel
theorem dX7_dam_47 : decode cX7_dam 47 = .ok (.goto (-28), 3) := by decide +kernel
theorem dX7_dam_50 : decode cX7_dam 50 = .ok (.aload_n 0, 1) := by decide +kernel
theorem dX7_dam_51 : decode cX7_dam 51 = .ok (.invokevirtual 123, 3) := by decide +kernel
theorem dX7_dam_54 : decode cX7_dam 54 = .ok (.aload_n 0, 1) := by decide +kernel
theorem dX7_dam_55 : decode cX7_dam 55 = .ok (.invokevirtual 116, 3) := by decide +kernel
theorem dX7_dam_58 : decode cX7_dam 58 = .ok (.ifCond .eq 101, 3) := by decide +kernel
theorem dX7_dam_61 : decode cX7_dam 61 = .ok (.aload_n 0, 1) := by decide +kernel
theorem dX7_dam_62 : decode cX7_dam 62 = .ok (.getfield 104, 3) := by decide +kernel
theorem dX7_dam_65 : decode cX7_dam 65 = .ok (.ifCond .eq 94, 3) := by decide +kernel
theorem dX7_dam_68 : decode cX7_dam 68 = .ok (.aload_n 0, 1) := by decide +kernel
theorem dX7_dam_69 : decode cX7_dam 69 = .ok (.bipush 122, 2) := by decide +kernel
theorem dX7_dam_71 : decode cX7_dam 71 = .ok (.bipush 111, 2) := by decide +kernel
theorem dX7_dam_73 : decode cX7_dam 73 = .ok (.bipush 110, 2) := by decide +kernel
theorem dX7_dam_75 : decode cX7_dam 75 = .ok (.bipush 101, 2) := by decide +kernel
theorem dX7_dam_77 : decode cX7_dam 77 = .ok (.invokevirtual 130, 3) := by decide +kernel
theorem dX7_dam_80 : decode cX7_dam 80 = .ok (.istore_n 2, 1) := by decide +kernel
theorem dX7_dam_81 : decode cX7_dam 81 = .ok (.iload_n 1, 1) := by decide +kernel
theorem dX7_dam_82 : decode cX7_dam 82 = .ok (.bipush 20, 2) := by decide +kernel
theorem dX7_dam_84 : decode cX7_dam 84 = .ok (.if_icmp .eq 21, 3) := by decide +kernel
theorem dX7_dam_87 : decode cX7_dam 87 = .ok (.iload_n 2, 1) := by decide +kernel
theorem dX7_dam_88 : decode cX7_dam 88 = .ok (.ifCond .ne 24, 3) := by decide +kernel
theorem dX7_dam_91 : decode cX7_dam 91 = .ok (.aload_n 0, 1) := by decide +kernel
theorem dX7_dam_92 : decode cX7_dam 92 = .ok (.bipush 114, 2) := by decide +kernel
theorem dX7_dam_94 : decode cX7_dam 94 = .ok (.bipush 111, 2) := by decide +kernel
theorem dX7_dam_96 : decode cX7_dam 96 = .ok (.bipush 119, 2) := by decide +kernel
theorem dX7_dam_98 : decode cX7_dam 98 = .ok (.iconst 0, 1) := by decide +kernel
theorem dX7_dam_99 : decode cX7_dam 99 = .ok (.invokevirtual 130, 3) := by decide +kernel
theorem dX7_dam_102 : decode cX7_dam 102 = .ok (.ifCond .ne 10, 3) := by decide +kernel
theorem dX7_dam_105 : decode cX7_dam 105 = .ok (.aload_n 0, 1) := by decide +kernel
theorem dX7_dam_106 : decode cX7_dam 106 = .ok (.invokevirtual 120, 3) := by decide +kernel
theorem dX7_dam_109 : decode cX7_dam 109 = .ok (.goto 18, 3) := by decide +kernel
theorem dX7_dam_112 : decode cX7_dam 112 = .ok (.iload_n 2, 1) := by decide +kernel
theorem dX7_dam_113 : decode cX7_dam 113 = .ok (.ifCond .eq 10, 3) := by decide +kernel
theorem dX7_dam_116 : decode cX7_dam 116 = .ok (.aload_n 0, 1) := by decide +kernel
theorem dX7_dam_117 : decode cX7_dam 117 = .ok (.invokevirtual 134, 3) := by decide +kernel
theorem dX7_dam_120 : decode cX7_dam 120 = .ok (.goto 7, 3) := by decide +kernel
theorem dX7_dam_123 : decode cX7_dam 123 = .ok (.aload_n 0, 1) := by decide +kernel
theorem dX7_dam_124 : decode cX7_dam 124 = .ok (.invokevirtual 137, 3) := by decide +kernel
theorem dX7_dam_127 : decode cX7_dam 127 = .ok (.aload_n 0, 1) := by decide +kernel
theorem dX7_dam_128 : decode cX7_dam 128 = .ok (.invokevirtual 116, 3) := by decide +kernel
theorem dX7_dam_131 : decode cX7_dam 131 = .ok (.ifCond .eq 18, 3) := by decide +kernel
theorem dX7_dam_134 : decode cX7_dam 134 = .ok (.aload_n 0, 1) := by decide +kernel
theorem dX7_dam_135 : decode cX7_dam 135 = .ok (.getfield 104, 3) := by decide +kernel
theorem dX7_dam_138 : decode cX7_dam 138 = .ok (.iconst 3, 1) := by decide +kernel
theorem dX7_dam_139 : decode cX7_dam 139 = .ok (.if_icmp .ne 10, 3) := by decide +kernel
theorem dX7_dam_142 : decode cX7_dam 142 = .ok (.aload_n 0, 1) := by decide +kernel
theorem dX7_dam_143 : decode cX7_dam 143 = .ok (.invokevirtual 123, 3) := by decide +kernel
theorem dX7_dam_146 : decode cX7_dam 146 = .ok (.goto 7, 3) := by decide +kernel
theorem dX7_dam_149 : decode cX7_dam 149 = .ok (.aload_n 0, 1) := by decide +kernel
theorem dX7_dam_150 : decode cX7_dam 150 = .ok (.invokevirtual 120, 3) := by decide +kernel
theorem dX7_dam_153 : decode cX7_dam 153 = .ok (.iinc 1 1, 3) := by decide +kernel
theorem dX7_dam_156 : decode cX7_dam 156 = .ok (.goto (-102), 3) := by decide +kernel
theorem dX7_dam_159 : decode cX7_dam 159 = .ok (.aload_n 0, 1) := by decide +kernel
theorem dX7_dam_160 : decode cX7_dam 160 = .ok (.invokevirtual 116, 3) := by decide +kernel
theorem dX7_dam_163 : decode cX7_dam 163 = .ok (.ifCond .ne 11, 3) := by decide +kernel
theorem dX7_dam_166 : decode cX7_dam 166 = .ok (.bipush (-10), 2) := by decide +kernel
theorem dX7_dam_168 : decode cX7_dam 168 = .ok (.aload_n 0, 1) := by decide +kernel
theorem dX7_dam_169 : decode cX7_dam 169 = .ok (.getfield 113, 3) := by decide +kernel
theorem dX7_dam_172 : decode cX7_dam 172 = .ok (.isub, 1) := by decide +kernel
theorem dX7_dam_173 : decode cX7_dam 173 = .ok (.ireturn, 1) := by decide +kernel
theorem dX7_dam_174 : decode cX7_dam 174 = .ok (.aload_n 0, 1) := by decide +kernel
theorem dX7_dam_175 : decode cX7_dam 175 = .ok (.invokevirtual 72, 3) := by decide +kernel
theorem dX7_dam_178 : decode cX7_dam 178 = .ok (.iconst 0, 1) := by decide +kernel
theorem dX7_dam_179 : decode cX7_dam 179 = .ok (.istore_n 2, 1) := by decide +kernel
theorem dX7_dam_180 : decode cX7_dam 180 = .ok (.iload_n 2, 1) := by decide +kernel
theorem dX7_dam_181 : decode cX7_dam 181 = .ok (.bipush 48, 2) := by decide +kernel
theorem dX7_dam_183 : decode cX7_dam 183 = .ok (.if_icmp .ge 23, 3) := by decide +kernel
theorem dX7_dam_186 : decode cX7_dam 186 = .ok (.aload_n 0, 1) := by decide +kernel
theorem dX7_dam_187 : decode cX7_dam 187 = .ok (.getfield 7, 3) := by decide +kernel
theorem dX7_dam_190 : decode cX7_dam 190 = .ok (.iconst 0, 1) := by decide +kernel
theorem dX7_dam_191 : decode cX7_dam 191 = .ok (.iload_n 2, 1) := by decide +kernel
theorem dX7_dam_192 : decode cX7_dam 192 = .ok (.iadd, 1) := by decide +kernel
theorem dX7_dam_193 : decode cX7_dam 193 = .ok (.aload_n 0, 1) := by decide +kernel
theorem dX7_dam_194 : decode cX7_dam 194 = .ok (.getfield 23, 3) := by decide +kernel
theorem dX7_dam_197 : decode cX7_dam 197 = .ok (.iload_n 2, 1) := by decide +kernel
theorem dX7_dam_198 : decode cX7_dam 198 = .ok (.iaload, 1) := by decide +kernel
theorem dX7_dam_199 : decode cX7_dam 199 = .ok (.iastore, 1) := by decide +kernel
theorem dX7_dam_200 : decode cX7_dam 200 = .ok (.iinc 2 1, 3) := by decide +kernel
theorem dX7_dam_203 : decode cX7_dam 203 = .ok (.goto (-23), 3) := by decide +kernel
theorem dX7_dam_206 : decode cX7_dam 206 = .ok (.iconst 0, 1) := by decide +kernel
theorem dX7_dam_207 : decode cX7_dam 207 = .ok (.istore_n 2, 1) := by decide +kernel
theorem dX7_dam_208 : decode cX7_dam 208 = .ok (.iload_n 2, 1) := by decide +kernel
theorem dX7_dam_209 : decode cX7_dam 209 = .ok (.bipush 18, 2) := by decide +kernel
theorem dX7_dam_211 : decode cX7_dam 211 = .ok (.if_icmp .ge 28, 3) := by decide +kernel
theorem dX7_dam_214 : decode cX7_dam 214 = .ok (.aload_n 0, 1) := by decide +kernel
theorem dX7_dam_215 : decode cX7_dam 215 = .ok (.getfield 7, 3) := by decide +kernel
theorem dX7_dam_218 : decode cX7_dam 218 = .ok (.sipush 144, 3) := by decide +kernel
theorem dX7_dam_221 : decode cX7_dam 221 = .ok (.iload_n 2, 1) := by decide +kernel
theorem dX7_dam_222 : decode cX7_dam 222 = .ok (.iadd, 1) := by decide +kernel
theorem dX7_dam_223 : decode cX7_dam 223 = .ok (.aload_n 0, 1) := by decide +kernel
theorem dX7_dam_224 : decode cX7_dam 224 = .ok (.getfield 23, 3) := by decide +kernel
theorem dX7_dam_227 : decode cX7_dam 227 = .ok (.bipush 48, 2) := by decide +kernel
theorem dX7_dam_229 : decode cX7_dam 229 = .ok (.iload_n 2, 1) := by decide +kernel
theorem dX7_dam_230 : decode cX7_dam 230 = .ok (.iadd, 1) := by decide +kernel
theorem dX7_dam_231 : decode cX7_dam 231 = .ok (.iaload, 1) := by decide +kernel
theorem dX7_dam_232 : decode cX7_dam 232 = .ok (.iastore, 1) := by decide +kernel
theorem dX7_dam_233 : decode cX7_dam 233 = .ok (.iinc 2 1, 3) := by decide +kernel
theorem dX7_dam_236 : decode cX7_dam 236 = .ok (.goto (-28), 3) := by decide +kernel
theorem dX7_dam_239 : decode cX7_dam 239 = .ok (.aload_n 0, 1) := by decide +kernel
theorem dX7_dam_240 : decode cX7_dam 240 = .ok (.iconst 0, 1) := by decide +kernel
theorem dX7_dam_241 : decode cX7_dam 241 = .ok (.putfield 90, 3) := by decide +kernel
theorem dX7_dam_244 : decode cX7_dam 244 = .ok (.aload_n 0, 1) := by decide +kernel
theorem dX7_dam_245 : decode cX7_dam 245 = .ok (.invokevirtual 140, 3) := by decide +kernel
theorem dX7_dam_248 : decode cX7_dam 248 = .ok (.ireturn, 1) := by decide +kernel
theorem dX7_cell_0 : decode cX7_cell 0 = .ok (.aload_n 0, 1) := by decide +kernel
theorem dX7_cell_1 : decode cX7_cell 1 = .ok (.iconst 0, 1) := by decide +kernel
theorem dX7_cell_2 : decode cX7_cell 2 = .ok (.putfield 75, 3) := by decide +kernel
theorem dX7_cell_5 : decode cX7_cell 5 = .ok (.iload_n 1, 1) := by decide +kernel
theorem dX7_cell_6 : decode cX7_cell 6 = .ok (.iload_n 2, 1) := by decide +kernel
theorem dX7_cell_7 : decode cX7_cell 7 = .ok (.invokestatic 144, 3) := by decide +kernel
theorem dX7_cell_10 : decode cX7_cell 10 = .ok (.ifCond .eq 12, 3) := by decide +kernel
theorem dX7_cell_13 : decode cX7_cell 13 = .ok (.iload_n 3, 1) := by decide +kernel
theorem dX7_cell_14 : decode cX7_cell 14 = .ok (.iconst 0, 1) := by decide +kernel
theorem dX7_cell_15 : decode cX7_cell 15 = .ok (.iconst 3, 1) := by decide +kernel
theorem dX7_cell_16 : decode cX7_cell 16 = .ok (.invokestatic 78, 3) := by decide +kernel
theorem dX7_cell_19 : decode cX7_cell 19 = .ok (.ifCond .ne 5, 3) := by decide +kernel
theorem dX7_cell_22 : decode cX7_cell 22 = .ok (.iconst (-1), 1) := by decide +kernel
theorem dX7_cell_23 : decode cX7_cell 23 = .ok (.ireturn, 1) := by decide +kernel
theorem dX7_cell_24 : decode cX7_cell 24 = .ok (.bipush 8, 2) := by decide +kernel
theorem dX7_cell_26 : decode cX7_cell 26 = .ok (.iload_n 2, 1) := by decide +kernel
theorem dX7_cell_27 : decode cX7_cell 27 = .ok (.imul, 1) := by decide +kernel
theorem dX7_cell_28 : decode cX7_cell 28 = .ok (.iload_n 1, 1) := by decide +kernel
theorem dX7_cell_29 : decode cX7_cell 29 = .ok (.iadd, 1) := by decide +kernel
theorem dX7_cell_30 : decode cX7_cell 30 = .ok (.istore 4, 2) := by decide +kernel
theorem dX7_cell_32 : decode cX7_cell 32 = .ok (.iload_n 3, 1) := by decide +kernel
theorem dX7_cell_33 : decode cX7_cell 33 = .ok (.ifCond .ne 13, 3) := by decide +kernel
theorem dX7_cell_36 : decode cX7_cell 36 = .ok (.aload_n 0, 1) := by decide +kernel
theorem dX7_cell_37 : decode cX7_cell 37 = .ok (.getfield 7, 3) := by decide +kernel
theorem dX7_cell_40 : decode cX7_cell 40 = .ok (.iconst 0, 1) := by decide +kernel
theorem dX7_cell_41 : decode cX7_cell 41 = .ok (.iload 4, 2) := by decide +kernel
theorem dX7_cell_43 : decode cX7_cell 43 = .ok (.iadd, 1) := by decide +kernel
theorem dX7_cell_44 : decode cX7_cell 44 = .ok (.iaload, 1) := by decide +kernel
theorem dX7_cell_45 : decode cX7_cell 45 = .ok (.ireturn, 1) := by decide +kernel
theorem dX7_cell_46 : decode cX7_cell 46 = .ok (.aload_n 0, 1) := by decide +kernel
theorem dX7_cell_47 : decode cX7_cell 47 = .ok (.getfield 7, 3) := by decide +kernel
theorem dX7_cell_50 : decode cX7_cell 50 = .ok (.iconst 0, 1) := by decide +kernel
theorem dX7_cell_51 : decode cX7_cell 51 = .ok (.iload 4, 2) := by decide +kernel
theorem dX7_cell_53 : decode cX7_cell 53 = .ok (.iadd, 1) := by decide +kernel
theorem dX7_cell_54 : decode cX7_cell 54 = .ok (.iaload, 1) := by decide +kernel
theorem dX7_cell_55 : decode cX7_cell 55 = .ok (.bipush (-9), 2) := by decide +kernel
theorem dX7_cell_57 : decode cX7_cell 57 = .ok (.if_icmp .ne 6, 3) := by decide +kernel
theorem dX7_cell_60 : decode cX7_cell 60 = .ok (.bipush (-2), 2) := by decide +kernel
theorem dX7_cell_62 : decode cX7_cell 62 = .ok (.ireturn, 1) := by decide +kernel
theorem dX7_cell_63 : decode cX7_cell 63 = .ok (.iload_n 3, 1) := by decide +kernel
theorem dX7_cell_64 : decode cX7_cell 64 = .ok (.iconst 1, 1) := by decide +kernel
theorem dX7_cell_65 : decode cX7_cell 65 = .ok (.if_icmp .ne 16, 3) := by decide +kernel
theorem dX7_cell_68 : decode cX7_cell 68 = .ok (.aload_n 0, 1) := by decide +kernel
theorem dX7_cell_69 : decode cX7_cell 69 = .ok (.getfield 7, 3) := by decide +kernel
theorem dX7_cell_72 : decode cX7_cell 72 = .ok (.bipush 48, 2) := by decide +kernel
theorem dX7_cell_74 : decode cX7_cell 74 = .ok (.iload 4, 2) := by decide +kernel
theorem dX7_cell_76 : decode cX7_cell 76 = .ok (.iadd, 1) := by decide +kernel
theorem dX7_cell_77 : decode cX7_cell 77 = .ok (.iaload, 1) := by decide +kernel
theorem dX7_cell_78 : decode cX7_cell 78 = .ok (.goto 27, 3) := by decide +kernel
theorem dX7_cell_81 : decode cX7_cell 81 = .ok (.iload_n 3, 1) := by decide +kernel
theorem dX7_cell_82 : decode cX7_cell 82 = .ok (.iconst 2, 1) := by decide +kernel
theorem dX7_cell_83 : decode cX7_cell 83 = .ok (.if_icmp .ne 12, 3) := by decide +kernel
theorem dX7_cell_86 : decode cX7_cell 86 = .ok (.aload_n 0, 1) := by decide +kernel
theorem dX7_cell_87 : decode cX7_cell 87 = .ok (.iload 4, 2) := by decide +kernel
theorem dX7_cell_89 : decode cX7_cell 89 = .ok (.invokevirtual 86, 3) := by decide +kernel
theorem dX7_cell_92 : decode cX7_cell 92 = .ok (.goto 13, 3) := by decide +kernel
theorem dX7_cell_95 : decode cX7_cell 95 = .ok (.aload_n 0, 1) := by decide +kernel
theorem dX7_cell_96 : decode cX7_cell 96 = .ok (.getfield 7, 3) := by decide +kernel
theorem dX7_cell_99 : decode cX7_cell 99 = .ok (.bipush 96, 2) := by decide +kernel
theorem dX7_cell_101 : decode cX7_cell 101 = .ok (.iload 4, 2) := by decide +kernel
theorem dX7_cell_103 : decode cX7_cell 103 = .ok (.iadd, 1) := by decide +kernel
theorem dX7_cell_104 : decode cX7_cell 104 = .ok (.iaload, 1) := by decide +kernel
theorem dX7_cell_105 : decode cX7_cell 105 = .ok (.ireturn, 1) := by decide +kernel
theorem dX7_zone_0 : decode cX7_zone 0 = .ok (.aload_n 0, 1) := by decide +kernel
theorem dX7_zone_1 : decode cX7_zone 1 = .ok (.iconst 0, 1) := by decide +kernel
theorem dX7_zone_2 : decode cX7_zone 2 = .ok (.putfield 75, 3) := by decide +kernel
theorem dX7_zone_5 : decode cX7_zone 5 = .ok (.iload_n 1, 1) := by decide +kernel
theorem dX7_zone_6 : decode cX7_zone 6 = .ok (.iconst 0, 1) := by decide +kernel
theorem dX7_zone_7 : decode cX7_zone 7 = .ok (.iconst 5, 1) := by decide +kernel
theorem dX7_zone_8 : decode cX7_zone 8 = .ok (.invokestatic 78, 3) := by decide +kernel
theorem dX7_zone_11 : decode cX7_zone 11 = .ok (.ifCond .eq 22, 3) := by decide +kernel
theorem dX7_zone_14 : decode cX7_zone 14 = .ok (.iload_n 2, 1) := by decide +kernel
theorem dX7_zone_15 : decode cX7_zone 15 = .ok (.iconst 0, 1) := by decide +kernel
theorem dX7_zone_16 : decode cX7_zone 16 = .ok (.iconst 2, 1) := by decide +kernel
theorem dX7_zone_17 : decode cX7_zone 17 = .ok (.invokestatic 78, 3) := by decide +kernel
theorem dX7_zone_20 : decode cX7_zone 20 = .ok (.ifCond .eq 13, 3) := by decide +kernel
theorem dX7_zone_23 : decode cX7_zone 23 = .ok (.iload_n 3, 1) := by decide +kernel
theorem dX7_zone_24 : decode cX7_zone 24 = .ok (.iconst 1, 1) := by decide +kernel
theorem dX7_zone_25 : decode cX7_zone 25 = .ok (.bipush 99, 2) := by decide +kernel
theorem dX7_zone_27 : decode cX7_zone 27 = .ok (.invokestatic 78, 3) := by decide +kernel
theorem dX7_zone_30 : decode cX7_zone 30 = .ok (.ifCond .ne 5, 3) := by decide +kernel
theorem dX7_zone_33 : decode cX7_zone 33 = .ok (.iconst (-1), 1) := by decide +kernel
theorem dX7_zone_34 : decode cX7_zone 34 = .ok (.ireturn, 1) := by decide +kernel
theorem dX7_zone_35 : decode cX7_zone 35 = .ok (.sipush 144, 3) := by decide +kernel
theorem dX7_zone_38 : decode cX7_zone 38 = .ok (.bipush 6, 2) := by decide +kernel
theorem dX7_zone_40 : decode cX7_zone 40 = .ok (.iload_n 2, 1) := by decide +kernel
theorem dX7_zone_41 : decode cX7_zone 41 = .ok (.imul, 1) := by decide +kernel
theorem dX7_zone_42 : decode cX7_zone 42 = .ok (.iadd, 1) := by decide +kernel
theorem dX7_zone_43 : decode cX7_zone 43 = .ok (.iload_n 1, 1) := by decide +kernel
theorem dX7_zone_44 : decode cX7_zone 44 = .ok (.iadd, 1) := by decide +kernel
theorem dX7_zone_45 : decode cX7_zone 45 = .ok (.istore 4, 2) := by decide +kernel
theorem dX7_zone_47 : decode cX7_zone 47 = .ok (.aload_n 0, 1) := by decide +kernel
theorem dX7_zone_48 : decode cX7_zone 48 = .ok (.getfield 7, 3) := by decide +kernel
theorem dX7_zone_51 : decode cX7_zone 51 = .ok (.iload 4, 2) := by decide +kernel
theorem dX7_zone_53 : decode cX7_zone 53 = .ok (.iaload, 1) := by decide +kernel
theorem dX7_zone_54 : decode cX7_zone 54 = .ok (.istore 5, 2) := by decide +kernel
theorem dX7_zone_56 : decode cX7_zone 56 = .ok (.aload_n 0, 1) := by decide +kernel
theorem dX7_zone_57 : decode cX7_zone 57 = .ok (.getfield 7, 3) := by decide +kernel
theorem dX7_zone_60 : decode cX7_zone 60 = .ok (.iload 4, 2) := by decide +kernel
theorem dX7_zone_62 : decode cX7_zone 62 = .ok (.iload_n 3, 1) := by decide +kernel
theorem dX7_zone_63 : decode cX7_zone 63 = .ok (.iastore, 1) := by decide +kernel
theorem dX7_zone_64 : decode cX7_zone 64 = .ok (.iload 5, 2) := by decide +kernel
theorem dX7_zone_66 : decode cX7_zone 66 = .ok (.ireturn, 1) := by decide +kernel
theorem dX7_load_0 : decode cX7_load 0 = .ok (.aload_n 0, 1) := by decide +kernel
theorem dX7_load_1 : decode cX7_load 1 = .ok (.iconst 0, 1) := by decide +kernel
theorem dX7_load_2 : decode cX7_load 2 = .ok (.putfield 75, 3) := by decide +kernel
theorem dX7_load_5 : decode cX7_load 5 = .ok (.iload_n 1, 1) := by decide +kernel
theorem dX7_load_6 : decode cX7_load 6 = .ok (.iconst 0, 1) := by decide +kernel
theorem dX7_load_7 : decode cX7_load 7 = .ok (.iconst 4, 1) := by decide +kernel
theorem dX7_load_8 : decode cX7_load 8 = .ok (.invokestatic 78, 3) := by decide +kernel
theorem dX7_load_11 : decode cX7_load 11 = .ok (.ifCond .eq 11, 3) := by decide +kernel
theorem dX7_load_14 : decode cX7_load 14 = .ok (.iload_n 2, 1) := by decide +kernel
theorem dX7_load_15 : decode cX7_load 15 = .ok (.iload_n 3, 1) := by decide +kernel
theorem dX7_load_16 : decode cX7_load 16 = .ok (.invokestatic 144, 3) := by decide +kernel
theorem dX7_load_19 : decode cX7_load 19 = .ok (.ifCond .ne 5, 3) := by decide +kernel
theorem dX7_load_22 : decode cX7_load 22 = .ok (.iconst (-1), 1) := by decide +kernel
theorem dX7_load_23 : decode cX7_load 23 = .ok (.ireturn, 1) := by decide +kernel
theorem dX7_load_24 : decode cX7_load 24 = .ok (.bipush 8, 2) := by decide +kernel
theorem dX7_load_26 : decode cX7_load 26 = .ok (.iload_n 3, 1) := by decide +kernel
theorem dX7_load_27 : decode cX7_load 27 = .ok (.imul, 1) := by decide +kernel
theorem dX7_load_28 : decode cX7_load 28 = .ok (.iload_n 2, 1) := by decide +kernel
theorem dX7_load_29 : decode cX7_load 29 = .ok (.iadd, 1) := by decide +kernel
theorem dX7_load_30 : decode cX7_load 30 = .ok (.istore 4, 2) := by decide +kernel
theorem dX7_load_32 : decode cX7_load 32 = .ok (.aload_n 0, 1) := by decide +kernel
theorem dX7_load_33 : decode cX7_load 33 = .ok (.getfield 7, 3) := by decide +kernel
theorem dX7_load_36 : decode cX7_load 36 = .ok (.iconst 0, 1) := by decide +kernel
theorem dX7_load_37 : decode cX7_load 37 = .ok (.iload 4, 2) := by decide +kernel
theorem dX7_load_39 : decode cX7_load 39 = .ok (.iadd, 1) := by decide +kernel
theorem dX7_load_40 : decode cX7_load 40 = .ok (.iaload, 1) := by decide +kernel
theorem dX7_load_41 : decode cX7_load 41 = .ok (.bipush (-9), 2) := by decide +kernel
theorem dX7_load_43 : decode cX7_load 43 = .ok (.if_icmp .ne 6, 3) := by decide +kernel
theorem dX7_load_46 : decode cX7_load 46 = .ok (.bipush (-2), 2) := by decide +kernel
theorem dX7_load_48 : decode cX7_load 48 = .ok (.ireturn, 1) := by decide +kernel
theorem dX7_load_49 : decode cX7_load 49 = .ok (.bipush 10, 2) := by decide +kernel
theorem dX7_load_51 : decode cX7_load 51 = .ok (.iload_n 3, 1) := by decide +kernel
theorem dX7_load_52 : decode cX7_load 52 = .ok (.iadd, 1) := by decide +kernel
theorem dX7_load_53 : decode cX7_load 53 = .ok (.istore 5, 2) := by decide +kernel
theorem dX7_load_55 : decode cX7_load 55 = .ok (.iload 5, 2) := by decide +kernel
theorem dX7_load_57 : decode cX7_load 57 = .ok (.aload_n 0, 1) := by decide +kernel
theorem dX7_load_58 : decode cX7_load 58 = .ok (.iload 4, 2) := by decide +kernel
theorem dX7_load_60 : decode cX7_load 60 = .ok (.invokevirtual 86, 3) := by decide +kernel
theorem dX7_load_63 : decode cX7_load 63 = .ok (.bipush 100, 2) := by decide +kernel
theorem dX7_load_65 : decode cX7_load 65 = .ok (.idiv, 1) := by decide +kernel
theorem dX7_load_66 : decode cX7_load 66 = .ok (.iadd, 1) := by decide +kernel
theorem dX7_load_67 : decode cX7_load 67 = .ok (.istore 6, 2) := by decide +kernel
theorem dX7_load_69 : decode cX7_load 69 = .ok (.aload_n 0, 1) := by decide +kernel
theorem dX7_load_70 : decode cX7_load 70 = .ok (.dup, 1) := by decide +kernel
theorem dX7_load_71 : decode cX7_load 71 = .ok (.getfield 148, 3) := by decide +kernel
theorem dX7_load_74 : decode cX7_load 74 = .ok (.iload_n 1, 1) := by decide +kernel
theorem dX7_load_75 : decode cX7_load 75 = .ok (.ifCond .ne 7, 3) := by decide +kernel
theorem dX7_load_78 : decode cX7_load 78 = .ok (.lconst 1, 1) := by decide +kernel
theorem dX7_load_79 : decode cX7_load 79 = .ok (.goto 39, 3) := by decide +kernel
theorem dX7_load_82 : decode cX7_load 82 = .ok (.iload_n 1, 1) := by decide +kernel
theorem dX7_load_83 : decode cX7_load 83 = .ok (.iconst 1, 1) := by decide +kernel
theorem dX7_load_84 : decode cX7_load 84 = .ok (.if_icmp .ne 9, 3) := by decide +kernel
theorem dX7_load_87 : decode cX7_load 87 = .ok (.ldc2_w 152, 3) := by decide +kernel
theorem dX7_load_90 : decode cX7_load 90 = .ok (.goto 28, 3) := by decide +kernel
theorem dX7_load_93 : decode cX7_load 93 = .ok (.iload_n 1, 1) := by decide +kernel
theorem dX7_load_94 : decode cX7_load 94 = .ok (.iconst 2, 1) := by decide +kernel
theorem dX7_load_95 : decode cX7_load 95 = .ok (.if_icmp .ne 9, 3) := by decide +kernel
theorem dX7_load_98 : decode cX7_load 98 = .ok (.ldc2_w 154, 3) := by decide +kernel
theorem dX7_load_101 : decode cX7_load 101 = .ok (.goto 17, 3) := by decide +kernel
theorem dX7_load_104 : decode cX7_load 104 = .ok (.iload_n 1, 1) := by decide +kernel
theorem dX7_load_105 : decode cX7_load 105 = .ok (.iconst 3, 1) := by decide +kernel
theorem dX7_load_106 : decode cX7_load 106 = .ok (.if_icmp .ne 9, 3) := by decide +kernel
theorem dX7_load_109 : decode cX7_load 109 = .ok (.ldc2_w 156, 3) := by decide +kernel
theorem dX7_load_112 : decode cX7_load 112 = .ok (.goto 6, 3) := by decide +kernel
theorem dX7_load_115 : decode cX7_load 115 = .ok (.ldc2_w 158, 3) := by decide +kernel
theorem dX7_load_118 : decode cX7_load 118 = .ok (.ladd, 1) := by decide +kernel
theorem dX7_load_119 : decode cX7_load 119 = .ok (.putfield 148, 3) := by decide +kernel
theorem dX7_load_122 : decode cX7_load 122 = .ok (.iload_n 1, 1) := by decide +kernel
theorem dX7_load_123 : decode cX7_load 123 = .ok (.ifCond .ne 8, 3) := by decide +kernel
theorem dX7_load_126 : decode cX7_load 126 = .ok (.iload 5, 2) := by decide +kernel
theorem dX7_load_128 : decode cX7_load 128 = .ok (.goto 52, 3) := by decide +kernel
theorem dX7_load_131 : decode cX7_load 131 = .ok (.iload_n 1, 1) := by decide +kernel
theorem dX7_load_132 : decode cX7_load 132 = .ok (.iconst 1, 1) := by decide +kernel
theorem dX7_load_133 : decode cX7_load 133 = .ok (.if_icmp .ne 8, 3) := by decide +kernel
theorem dX7_load_136 : decode cX7_load 136 = .ok (.iload 6, 2) := by decide +kernel
theorem dX7_load_138 : decode cX7_load 138 = .ok (.goto 42, 3) := by decide +kernel
theorem dX7_load_141 : decode cX7_load 141 = .ok (.iload_n 1, 1) := by decide +kernel
theorem dX7_load_142 : decode cX7_load 142 = .ok (.iconst 2, 1) := by decide +kernel
theorem dX7_load_143 : decode cX7_load 143 = .ok (.if_icmp .ne 13, 3) := by decide +kernel
theorem dX7_load_146 : decode cX7_load 146 = .ok (.iload 6, 2) := by decide +kernel
theorem dX7_load_148 : decode cX7_load 148 = .ok (.iload 6, 2) := by decide +kernel
theorem dX7_load_150 : decode cX7_load 150 = .ok (.iconst 3, 1) := by decide +kernel
theorem dX7_load_151 : decode cX7_load 151 = .ok (.idiv, 1) := by decide +kernel
theorem dX7_load_152 : decode cX7_load 152 = .ok (.isub, 1) := by decide +kernel
theorem dX7_load_153 : decode cX7_load 153 = .ok (.goto 27, 3) := by decide +kernel
theorem dX7_load_156 : decode cX7_load 156 = .ok (.iload_n 1, 1) := by decide +kernel
theorem dX7_load_157 : decode cX7_load 157 = .ok (.iconst 3, 1) := by decide +kernel
theorem dX7_load_158 : decode cX7_load 158 = .ok (.if_icmp .ne 10, 3) := by decide +kernel
theorem dX7_load_161 : decode cX7_load 161 = .ok (.iload 6, 2) := by decide +kernel
theorem dX7_load_163 : decode cX7_load 163 = .ok (.iconst 2, 1) := by decide +kernel
theorem dX7_load_164 : decode cX7_load 164 = .ok (.idiv, 1) := by decide +kernel
theorem dX7_load_165 : decode cX7_load 165 = .ok (.goto 15, 3) := by decide +kernel
theorem dX7_load_168 : decode cX7_load 168 = .ok (.iload 5, 2) := by decide +kernel
theorem dX7_load_170 : decode cX7_load 170 = .ok (.aload_n 0, 1) := by decide +kernel
theorem dX7_load_171 : decode cX7_load 171 = .ok (.iload 4, 2) := by decide +kernel
theorem dX7_load_173 : decode cX7_load 173 = .ok (.invokevirtual 160, 3) := by decide +kernel
theorem dX7_load_176 : decode cX7_load 176 = .ok (.bipush 10, 2) := by decide +kernel
theorem dX7_load_178 : decode cX7_load 178 = .ok (.idiv, 1) := by decide +kernel
theorem dX7_load_179 : decode cX7_load 179 = .ok (.isub, 1) := by decide +kernel
theorem dX7_load_180 : decode cX7_load 180 = .ok (.ireturn, 1) := by decide +kernel
theorem dX7_lake_0 : decode cX7_lake 0 = .ok (.aload_n 0, 1) := by decide +kernel
theorem dX7_lake_1 : decode cX7_lake 1 = .ok (.iconst 0, 1) := by decide +kernel
theorem dX7_lake_2 : decode cX7_lake 2 = .ok (.putfield 75, 3) := by decide +kernel
theorem dX7_lake_5 : decode cX7_lake 5 = .ok (.iload_n 1, 1) := by decide +kernel
theorem dX7_lake_6 : decode cX7_lake 6 = .ok (.iconst 0, 1) := by decide +kernel
theorem dX7_lake_7 : decode cX7_lake 7 = .ok (.bipush 6, 2) := by decide +kernel
theorem dX7_lake_9 : decode cX7_lake 9 = .ok (.invokestatic 78, 3) := by decide +kernel
theorem dX7_lake_12 : decode cX7_lake 12 = .ok (.ifCond .ne 5, 3) := by decide +kernel
theorem dX7_lake_15 : decode cX7_lake 15 = .ok (.iconst (-1), 1) := by decide +kernel
theorem dX7_lake_16 : decode cX7_lake 16 = .ok (.ireturn, 1) := by decide +kernel
theorem dX7_lake_17 : decode cX7_lake 17 = .ok (.aload_n 0, 1) := by decide +kernel
theorem dX7_lake_18 : decode cX7_lake 18 = .ok (.getfield 7, 3) := by decide +kernel
theorem dX7_lake_21 : decode cX7_lake 21 = .ok (.sipush 162, 3) := by decide +kernel
theorem dX7_lake_24 : decode cX7_lake 24 = .ok (.iaload, 1) := by decide +kernel
theorem dX7_lake_25 : decode cX7_lake 25 = .ok (.istore_n 2, 1) := by decide +kernel
theorem dX7_lake_26 : decode cX7_lake 26 = .ok (.aload_n 0, 1) := by decide +kernel
theorem dX7_lake_27 : decode cX7_lake 27 = .ok (.getfield 7, 3) := by decide +kernel
theorem dX7_lake_30 : decode cX7_lake 30 = .ok (.sipush 162, 3) := by decide +kernel
theorem dX7_lake_33 : decode cX7_lake 33 = .ok (.iload_n 1, 1) := by decide +kernel
theorem dX7_lake_34 : decode cX7_lake 34 = .ok (.iastore, 1) := by decide +kernel
theorem dX7_lake_35 : decode cX7_lake 35 = .ok (.iload_n 2, 1) := by decide +kernel
theorem dX7_lake_36 : decode cX7_lake 36 = .ok (.ireturn, 1) := by decide +kernel
theorem dX7_beside_0 : decode cX7_beside 0 = .ok (.iload_n 0, 1) := by decide +kernel
theorem dX7_beside_1 : decode cX7_beside 1 = .ok (.bipush 8, 2) := by decide +kernel
theorem dX7_beside_3 : decode cX7_beside 3 = .ok (.irem, 1) := by decide +kernel
theorem dX7_beside_4 : decode cX7_beside 4 = .ok (.iload_n 1, 1) := by decide +kernel
theorem dX7_beside_5 : decode cX7_beside 5 = .ok (.iconst 2, 1) := by decide +kernel
theorem dX7_beside_6 : decode cX7_beside 6 = .ok (.if_icmp .ne 7, 3) := by decide +kernel
theorem dX7_beside_9 : decode cX7_beside 9 = .ok (.iconst (-1), 1) := by decide +kernel
theorem dX7_beside_10 : decode cX7_beside 10 = .ok (.goto 13, 3) := by decide +kernel
theorem dX7_beside_13 : decode cX7_beside 13 = .ok (.iload_n 1, 1) := by decide +kernel
theorem dX7_beside_14 : decode cX7_beside 14 = .ok (.iconst 3, 1) := by decide +kernel
theorem dX7_beside_15 : decode cX7_beside 15 = .ok (.if_icmp .ne 7, 3) := by decide +kernel
theorem dX7_beside_18 : decode cX7_beside 18 = .ok (.iconst 1, 1) := by decide +kernel
theorem dX7_beside_19 : decode cX7_beside 19 = .ok (.goto 4, 3) := by decide +kernel
theorem dX7_beside_22 : decode cX7_beside 22 = .ok (.iconst 0, 1) := by decide +kernel
theorem dX7_beside_23 : decode cX7_beside 23 = .ok (.iadd, 1) := by decide +kernel
theorem dX7_beside_24 : decode cX7_beside 24 = .ok (.istore_n 2, 1) := by decide +kernel
theorem dX7_beside_25 : decode cX7_beside 25 = .ok (.iload_n 0, 1) := by decide +kernel
theorem dX7_beside_26 : decode cX7_beside 26 = .ok (.bipush 8, 2) := by decide +kernel
theorem dX7_beside_28 : decode cX7_beside 28 = .ok (.idiv, 1) := by decide +kernel
theorem dX7_beside_29 : decode cX7_beside 29 = .ok (.iload_n 1, 1) := by decide +kernel
theorem dX7_beside_30 : decode cX7_beside 30 = .ok (.ifCond .ne 7, 3) := by decide +kernel
theorem dX7_beside_33 : decode cX7_beside 33 = .ok (.iconst 1, 1) := by decide +kernel
theorem dX7_beside_34 : decode cX7_beside 34 = .ok (.goto 13, 3) := by decide +kernel
theorem dX7_beside_37 : decode cX7_beside 37 = .ok (.iload_n 1, 1) := by decide +kernel
theorem dX7_beside_38 : decode cX7_beside 38 = .ok (.iconst 1, 1) := by decide +kernel
theorem dX7_beside_39 : decode cX7_beside 39 = .ok (.if_icmp .ne 7, 3) := by decide +kernel
theorem dX7_beside_42 : decode cX7_beside 42 = .ok (.iconst (-1), 1) := by decide +kernel
theorem dX7_beside_43 : decode cX7_beside 43 = .ok (.goto 4, 3) := by decide +kernel
theorem dX7_beside_46 : decode cX7_beside 46 = .ok (.iconst 0, 1) := by decide +kernel
theorem dX7_beside_47 : decode cX7_beside 47 = .ok (.iadd, 1) := by decide +kernel
theorem dX7_beside_48 : decode cX7_beside 48 = .ok (.istore_n 3, 1) := by decide +kernel
theorem dX7_beside_49 : decode cX7_beside 49 = .ok (.iload_n 2, 1) := by decide +kernel
theorem dX7_beside_50 : decode cX7_beside 50 = .ok (.iload_n 3, 1) := by decide +kernel
theorem dX7_beside_51 : decode cX7_beside 51 = .ok (.invokestatic 144, 3) := by decide +kernel
theorem dX7_beside_54 : decode cX7_beside 54 = .ok (.ifCond .eq 12, 3) := by decide +kernel
theorem dX7_beside_57 : decode cX7_beside 57 = .ok (.bipush 8, 2) := by decide +kernel
theorem dX7_beside_59 : decode cX7_beside 59 = .ok (.iload_n 3, 1) := by decide +kernel
theorem dX7_beside_60 : decode cX7_beside 60 = .ok (.imul, 1) := by decide +kernel
theorem dX7_beside_61 : decode cX7_beside 61 = .ok (.iload_n 2, 1) := by decide +kernel
theorem dX7_beside_62 : decode cX7_beside 62 = .ok (.iadd, 1) := by decide +kernel
theorem dX7_beside_63 : decode cX7_beside 63 = .ok (.goto 5, 3) := by decide +kernel
theorem dX7_beside_66 : decode cX7_beside 66 = .ok (.bipush (-9), 2) := by decide +kernel
theorem dX7_beside_68 : decode cX7_beside 68 = .ok (.ireturn, 1) := by decide +kernel
theorem dX7_lesser_0 : decode cX7_lesser 0 = .ok (.aload_n 0, 1) := by decide +kernel
theorem dX7_lesser_1 : decode cX7_lesser 1 = .ok (.getfield 7, 3) := by decide +kernel
theorem dX7_lesser_4 : decode cX7_lesser 4 = .ok (.sipush 144, 3) := by decide +kernel
theorem dX7_lesser_7 : decode cX7_lesser 7 = .ok (.aload_n 0, 1) := by decide +kernel
theorem dX7_lesser_8 : decode cX7_lesser 8 = .ok (.getfield 7, 3) := by decide +kernel
theorem dX7_lesser_11 : decode cX7_lesser 11 = .ok (.iconst 0, 1) := by decide +kernel
theorem dX7_lesser_12 : decode cX7_lesser 12 = .ok (.iload_n 1, 1) := by decide +kernel
theorem dX7_lesser_13 : decode cX7_lesser 13 = .ok (.iadd, 1) := by decide +kernel
theorem dX7_lesser_14 : decode cX7_lesser 14 = .ok (.iaload, 1) := by decide +kernel
theorem dX7_lesser_15 : decode cX7_lesser 15 = .ok (.iadd, 1) := by decide +kernel
theorem dX7_lesser_16 : decode cX7_lesser 16 = .ok (.iaload, 1) := by decide +kernel
theorem dX7_lesser_17 : decode cX7_lesser 17 = .ok (.istore_n 3, 1) := by decide +kernel
theorem dX7_lesser_18 : decode cX7_lesser 18 = .ok (.aload_n 0, 1) := by decide +kernel
theorem dX7_lesser_19 : decode cX7_lesser 19 = .ok (.getfield 7, 3) := by decide +kernel
theorem dX7_lesser_22 : decode cX7_lesser 22 = .ok (.sipush 144, 3) := by decide +kernel
theorem dX7_lesser_25 : decode cX7_lesser 25 = .ok (.aload_n 0, 1) := by decide +kernel
theorem dX7_lesser_26 : decode cX7_lesser 26 = .ok (.getfield 7, 3) := by decide +kernel
theorem dX7_lesser_29 : decode cX7_lesser 29 = .ok (.iconst 0, 1) := by decide +kernel
theorem dX7_lesser_30 : decode cX7_lesser 30 = .ok (.iload_n 2, 1) := by decide +kernel
theorem dX7_lesser_31 : decode cX7_lesser 31 = .ok (.iadd, 1) := by decide +kernel
theorem dX7_lesser_32 : decode cX7_lesser 32 = .ok (.iaload, 1) := by decide +kernel
theorem dX7_lesser_33 : decode cX7_lesser 33 = .ok (.iadd, 1) := by decide +kernel
theorem dX7_lesser_34 : decode cX7_lesser 34 = .ok (.iaload, 1) := by decide +kernel
theorem dX7_lesser_35 : decode cX7_lesser 35 = .ok (.istore 4, 2) := by decide +kernel
theorem dX7_lesser_37 : decode cX7_lesser 37 = .ok (.iload_n 3, 1) := by decide +kernel
theorem dX7_lesser_38 : decode cX7_lesser 38 = .ok (.iload 4, 2) := by decide +kernel
theorem dX7_lesser_40 : decode cX7_lesser 40 = .ok (.if_icmp .ge 7, 3) := by decide +kernel
theorem dX7_lesser_43 : decode cX7_lesser 43 = .ok (.iload_n 3, 1) := by decide +kernel
theorem dX7_lesser_44 : decode cX7_lesser 44 = .ok (.goto 5, 3) := by decide +kernel
theorem dX7_lesser_47 : decode cX7_lesser 47 = .ok (.iload 4, 2) := by decide +kernel
theorem dX7_lesser_49 : decode cX7_lesser 49 = .ok (.ireturn, 1) := by decide +kernel
theorem dX7_flowing_0 : decode cX7_flowing 0 = .ok (.iconst 0, 1) := by decide +kernel
theorem dX7_flowing_1 : decode cX7_flowing 1 = .ok (.istore_n 3, 1) := by decide +kernel
theorem dX7_flowing_2 : decode cX7_flowing 2 = .ok (.iconst 0, 1) := by decide +kernel
theorem dX7_flowing_3 : decode cX7_flowing 3 = .ok (.istore 4, 2) := by decide +kernel
theorem dX7_flowing_5 : decode cX7_flowing 5 = .ok (.iload 4, 2) := by decide +kernel
theorem dX7_flowing_7 : decode cX7_flowing 7 = .ok (.iconst 4, 1) := by decide +kernel
theorem dX7_flowing_8 : decode cX7_flowing 8 = .ok (.if_icmp .ge 62, 3) := by decide +kernel
theorem dX7_flowing_11 : decode cX7_flowing 11 = .ok (.iload_n 1, 1) := by decide +kernel
theorem dX7_flowing_12 : decode cX7_flowing 12 = .ok (.iload 4, 2) := by decide +kernel
theorem dX7_flowing_14 : decode cX7_flowing 14 = .ok (.invokestatic 163, 3) := by decide +kernel
theorem dX7_flowing_17 : decode cX7_flowing 17 = .ok (.istore 5, 2) := by decide +kernel
theorem dX7_flowing_19 : decode cX7_flowing 19 = .ok (.iload 5, 2) := by decide +kernel
theorem dX7_flowing_21 : decode cX7_flowing 21 = .ok (.bipush (-9), 2) := by decide +kernel
theorem dX7_flowing_23 : decode cX7_flowing 23 = .ok (.if_icmp .eq 41, 3) := by decide +kernel
theorem dX7_flowing_26 : decode cX7_flowing 26 = .ok (.aload_n 0, 1) := by decide +kernel
theorem dX7_flowing_27 : decode cX7_flowing 27 = .ok (.iload 5, 2) := by decide +kernel
theorem dX7_flowing_29 : decode cX7_flowing 29 = .ok (.invokevirtual 82, 3) := by decide +kernel
theorem dX7_flowing_32 : decode cX7_flowing 32 = .ok (.ifCond .eq 32, 3) := by decide +kernel
theorem dX7_flowing_35 : decode cX7_flowing 35 = .ok (.iload_n 3, 1) := by decide +kernel
theorem dX7_flowing_36 : decode cX7_flowing 36 = .ok (.aload_n 0, 1) := by decide +kernel
theorem dX7_flowing_37 : decode cX7_flowing 37 = .ok (.iload_n 1, 1) := by decide +kernel
theorem dX7_flowing_38 : decode cX7_flowing 38 = .ok (.iload 5, 2) := by decide +kernel
theorem dX7_flowing_40 : decode cX7_flowing 40 = .ok (.invokevirtual 166, 3) := by decide +kernel
theorem dX7_flowing_43 : decode cX7_flowing 43 = .ok (.iload_n 2, 1) := by decide +kernel
theorem dX7_flowing_44 : decode cX7_flowing 44 = .ok (.ifCond .eq 16, 3) := by decide +kernel
theorem dX7_flowing_47 : decode cX7_flowing 47 = .ok (.aload_n 0, 1) := by decide +kernel
theorem dX7_flowing_48 : decode cX7_flowing 48 = .ok (.getfield 7, 3) := by decide +kernel
theorem dX7_flowing_51 : decode cX7_flowing 51 = .ok (.bipush 48, 2) := by decide +kernel
theorem dX7_flowing_53 : decode cX7_flowing 53 = .ok (.iload 5, 2) := by decide +kernel
theorem dX7_flowing_55 : decode cX7_flowing 55 = .ok (.iadd, 1) := by decide +kernel
theorem dX7_flowing_56 : decode cX7_flowing 56 = .ok (.iaload, 1) := by decide +kernel
theorem dX7_flowing_57 : decode cX7_flowing 57 = .ok (.goto 4, 3) := by decide +kernel
theorem dX7_flowing_60 : decode cX7_flowing 60 = .ok (.iconst 1, 1) := by decide +kernel
theorem dX7_flowing_61 : decode cX7_flowing 61 = .ok (.imul, 1) := by decide +kernel
theorem dX7_flowing_62 : decode cX7_flowing 62 = .ok (.iadd, 1) := by decide +kernel
theorem dX7_flowing_63 : decode cX7_flowing 63 = .ok (.istore_n 3, 1) := by decide +kernel
theorem dX7_flowing_64 : decode cX7_flowing 64 = .ok (.iinc 4 1, 3) := by decide +kernel
theorem dX7_flowing_67 : decode cX7_flowing 67 = .ok (.goto (-62), 3) := by decide +kernel
theorem dX7_flowing_70 : decode cX7_flowing 70 = .ok (.iload_n 3, 1) := by decide +kernel
theorem dX7_flowing_71 : decode cX7_flowing 71 = .ok (.ireturn, 1) := by decide +kernel
theorem dX7_sweeps_0 : decode cX7_sweeps 0 = .ok (.iconst 0, 1) := by decide +kernel
theorem dX7_sweeps_1 : decode cX7_sweeps 1 = .ok (.istore_n 1, 1) := by decide +kernel
theorem dX7_sweeps_2 : decode cX7_sweeps 2 = .ok (.iload_n 1, 1) := by decide +kernel
theorem dX7_sweeps_3 : decode cX7_sweeps 3 = .ok (.bipush 48, 2) := by decide +kernel
theorem dX7_sweeps_5 : decode cX7_sweeps 5 = .ok (.if_icmp .ge 60, 3) := by decide +kernel
theorem dX7_sweeps_8 : decode cX7_sweeps 8 = .ok (.aload_n 0, 1) := by decide +kernel
theorem dX7_sweeps_9 : decode cX7_sweeps 9 = .ok (.iload_n 1, 1) := by decide +kernel
theorem dX7_sweeps_10 : decode cX7_sweeps 10 = .ok (.invokevirtual 82, 3) := by decide +kernel
theorem dX7_sweeps_13 : decode cX7_sweeps 13 = .ok (.ifCond .eq 46, 3) := by decide +kernel
theorem dX7_sweeps_16 : decode cX7_sweeps 16 = .ok (.iload_n 1, 1) := by decide +kernel
theorem dX7_sweeps_17 : decode cX7_sweeps 17 = .ok (.bipush 8, 2) := by decide +kernel
theorem dX7_sweeps_19 : decode cX7_sweeps 19 = .ok (.irem, 1) := by decide +kernel
theorem dX7_sweeps_20 : decode cX7_sweeps 20 = .ok (.ifCond .ne 39, 3) := by decide +kernel
theorem dX7_sweeps_23 : decode cX7_sweeps 23 = .ok (.iload_n 1, 1) := by decide +kernel
theorem dX7_sweeps_24 : decode cX7_sweeps 24 = .ok (.bipush 8, 2) := by decide +kernel
theorem dX7_sweeps_26 : decode cX7_sweeps 26 = .ok (.idiv, 1) := by decide +kernel
theorem dX7_sweeps_27 : decode cX7_sweeps 27 = .ok (.aload_n 0, 1) := by decide +kernel
theorem dX7_sweeps_28 : decode cX7_sweeps 28 = .ok (.getfield 7, 3) := by decide +kernel
theorem dX7_sweeps_31 : decode cX7_sweeps 31 = .ok (.sipush 162, 3) := by decide +kernel
theorem dX7_sweeps_34 : decode cX7_sweeps 34 = .ok (.iaload, 1) := by decide +kernel
theorem dX7_sweeps_35 : decode cX7_sweeps 35 = .ok (.if_icmp .ge 24, 3) := by decide +kernel
theorem dX7_sweeps_38 : decode cX7_sweeps 38 = .ok (.aload_n 0, 1) := by decide +kernel
theorem dX7_sweeps_39 : decode cX7_sweeps 39 = .ok (.getfield 7, 3) := by decide +kernel
theorem dX7_sweeps_42 : decode cX7_sweeps 42 = .ok (.bipush 48, 2) := by decide +kernel
theorem dX7_sweeps_44 : decode cX7_sweeps 44 = .ok (.iload_n 1, 1) := by decide +kernel
theorem dX7_sweeps_45 : decode cX7_sweeps 45 = .ok (.iadd, 1) := by decide +kernel
theorem dX7_sweeps_46 : decode cX7_sweeps 46 = .ok (.sipush 1000, 3) := by decide +kernel
theorem dX7_sweeps_49 : decode cX7_sweeps 49 = .ok (.aload_n 0, 1) := by decide +kernel
theorem dX7_sweeps_50 : decode cX7_sweeps 50 = .ok (.getfield 7, 3) := by decide +kernel
theorem dX7_sweeps_53 : decode cX7_sweeps 53 = .ok (.sipush 162, 3) := by decide +kernel
theorem dX7_sweeps_56 : decode cX7_sweeps 56 = .ok (.iaload, 1) := by decide +kernel
theorem dX7_sweeps_57 : decode cX7_sweeps 57 = .ok (.imul, 1) := by decide +kernel
theorem dX7_sweeps_58 : decode cX7_sweeps 58 = .ok (.iastore, 1) := by decide +kernel
theorem dX7_sweeps_59 : decode cX7_sweeps 59 = .ok (.iinc 1 1, 3) := by decide +kernel
theorem dX7_sweeps_62 : decode cX7_sweeps 62 = .ok (.goto (-60), 3) := by decide +kernel
theorem dX7_sweeps_65 : decode cX7_sweeps 65 = .ok (.aload_n 0, 1) := by decide +kernel
theorem dX7_sweeps_66 : decode cX7_sweeps 66 = .ok (.bipush 7, 2) := by decide +kernel
theorem dX7_sweeps_68 : decode cX7_sweeps 68 = .ok (.invokevirtual 82, 3) := by decide +kernel
theorem dX7_sweeps_71 : decode cX7_sweeps 71 = .ok (.ifCond .eq 11, 3) := by decide +kernel
theorem dX7_sweeps_74 : decode cX7_sweeps 74 = .ok (.aload_n 0, 1) := by decide +kernel
theorem dX7_sweeps_75 : decode cX7_sweeps 75 = .ok (.getfield 7, 3) := by decide +kernel
theorem dX7_sweeps_78 : decode cX7_sweeps 78 = .ok (.bipush 55, 2) := by decide +kernel
theorem dX7_sweeps_80 : decode cX7_sweeps 80 = .ok (.iconst 0, 1) := by decide +kernel
theorem dX7_sweeps_81 : decode cX7_sweeps 81 = .ok (.iastore, 1) := by decide +kernel
theorem dX7_sweeps_82 : decode cX7_sweeps 82 = .ok (.iconst 0, 1) := by decide +kernel
theorem dX7_sweeps_83 : decode cX7_sweeps 83 = .ok (.istore_n 1, 1) := by decide +kernel
theorem dX7_sweeps_84 : decode cX7_sweeps 84 = .ok (.iload_n 1, 1) := by decide +kernel
theorem dX7_sweeps_85 : decode cX7_sweeps 85 = .ok (.bipush 48, 2) := by decide +kernel
theorem dX7_sweeps_87 : decode cX7_sweeps 87 = .ok (.if_icmp .ge 99, 3) := by decide +kernel
theorem dX7_sweeps_90 : decode cX7_sweeps 90 = .ok (.iload_n 1, 1) := by decide +kernel
theorem dX7_sweeps_91 : decode cX7_sweeps 91 = .ok (.bipush 7, 2) := by decide +kernel
theorem dX7_sweeps_93 : decode cX7_sweeps 93 = .ok (.if_icmp .eq 25, 3) := by decide +kernel
theorem dX7_sweeps_96 : decode cX7_sweeps 96 = .ok (.iload_n 1, 1) := by decide +kernel
theorem dX7_sweeps_97 : decode cX7_sweeps 97 = .ok (.bipush 8, 2) := by decide +kernel
theorem dX7_sweeps_99 : decode cX7_sweeps 99 = .ok (.irem, 1) := by decide +kernel
theorem dX7_sweeps_100 : decode cX7_sweeps 100 = .ok (.ifCond .ne 22, 3) := by decide +kernel
theorem dX7_sweeps_103 : decode cX7_sweeps 103 = .ok (.iload_n 1, 1) := by decide +kernel
theorem dX7_sweeps_104 : decode cX7_sweeps 104 = .ok (.bipush 8, 2) := by decide +kernel
theorem dX7_sweeps_106 : decode cX7_sweeps 106 = .ok (.idiv, 1) := by decide +kernel
theorem dX7_sweeps_107 : decode cX7_sweeps 107 = .ok (.aload_n 0, 1) := by decide +kernel
theorem dX7_sweeps_108 : decode cX7_sweeps 108 = .ok (.getfield 7, 3) := by decide +kernel
theorem dX7_sweeps_111 : decode cX7_sweeps 111 = .ok (.sipush 162, 3) := by decide +kernel
theorem dX7_sweeps_114 : decode cX7_sweeps 114 = .ok (.iaload, 1) := by decide +kernel
theorem dX7_sweeps_115 : decode cX7_sweeps 115 = .ok (.if_icmp .ge 7, 3) := by decide +kernel
theorem dX7_sweeps_118 : decode cX7_sweeps 118 = .ok (.iconst 1, 1) := by decide +kernel
theorem dX7_sweeps_119 : decode cX7_sweeps 119 = .ok (.goto 4, 3) := by decide +kernel
theorem dX7_sweeps_122 : decode cX7_sweeps 122 = .ok (.iconst 0, 1) := by decide +kernel
theorem dX7_sweeps_123 : decode cX7_sweeps 123 = .ok (.istore_n 2, 1) := by decide +kernel
theorem dX7_sweeps_124 : decode cX7_sweeps 124 = .ok (.aload_n 0, 1) := by decide +kernel
theorem dX7_sweeps_125 : decode cX7_sweeps 125 = .ok (.iload_n 1, 1) := by decide +kernel
theorem dX7_sweeps_126 : decode cX7_sweeps 126 = .ok (.invokevirtual 82, 3) := by decide +kernel
theorem dX7_sweeps_129 : decode cX7_sweeps 129 = .ok (.ifCond .eq 16, 3) := by decide +kernel
theorem dX7_sweeps_132 : decode cX7_sweeps 132 = .ok (.iload_n 2, 1) := by decide +kernel
theorem dX7_sweeps_133 : decode cX7_sweeps 133 = .ok (.ifCond .ne 12, 3) := by decide +kernel
theorem dX7_sweeps_136 : decode cX7_sweeps 136 = .ok (.aload_n 0, 1) := by decide +kernel
theorem dX7_sweeps_137 : decode cX7_sweeps 137 = .ok (.iload_n 1, 1) := by decide +kernel
theorem dX7_sweeps_138 : decode cX7_sweeps 138 = .ok (.iconst 0, 1) := by decide +kernel
theorem dX7_sweeps_139 : decode cX7_sweeps 139 = .ok (.invokevirtual 169, 3) := by decide +kernel
theorem dX7_sweeps_142 : decode cX7_sweeps 142 = .ok (.goto 4, 3) := by decide +kernel
theorem dX7_sweeps_145 : decode cX7_sweeps 145 = .ok (.iconst 0, 1) := by decide +kernel
theorem dX7_sweeps_146 : decode cX7_sweeps 146 = .ok (.istore_n 3, 1) := by decide +kernel
theorem dX7_sweeps_147 : decode cX7_sweeps 147 = .ok (.aload_n 0, 1) := by decide +kernel
theorem dX7_sweeps_148 : decode cX7_sweeps 148 = .ok (.getfield 7, 3) := by decide +kernel
theorem dX7_sweeps_151 : decode cX7_sweeps 151 = .ok (.bipush 48, 2) := by decide +kernel
theorem dX7_sweeps_153 : decode cX7_sweeps 153 = .ok (.iload_n 1, 1) := by decide +kernel
theorem dX7_sweeps_154 : decode cX7_sweeps 154 = .ok (.iadd, 1) := by decide +kernel
theorem dX7_sweeps_155 : decode cX7_sweeps 155 = .ok (.iload_n 3, 1) := by decide +kernel
theorem dX7_sweeps_156 : decode cX7_sweeps 156 = .ok (.ifCond .le 14, 3) := by decide +kernel
theorem dX7_sweeps_159 : decode cX7_sweeps 159 = .ok (.aload_n 0, 1) := by decide +kernel
theorem dX7_sweeps_160 : decode cX7_sweeps 160 = .ok (.iload_n 1, 1) := by decide +kernel
theorem dX7_sweeps_161 : decode cX7_sweeps 161 = .ok (.iconst 1, 1) := by decide +kernel
theorem dX7_sweeps_162 : decode cX7_sweeps 162 = .ok (.invokevirtual 169, 3) := by decide +kernel
theorem dX7_sweeps_165 : decode cX7_sweeps 165 = .ok (.iload_n 3, 1) := by decide +kernel
theorem dX7_sweeps_166 : decode cX7_sweeps 166 = .ok (.idiv, 1) := by decide +kernel
theorem dX7_sweeps_167 : decode cX7_sweeps 167 = .ok (.goto 12, 3) := by decide +kernel
theorem dX7_sweeps_170 : decode cX7_sweeps 170 = .ok (.aload_n 0, 1) := by decide +kernel
theorem dX7_sweeps_171 : decode cX7_sweeps 171 = .ok (.getfield 7, 3) := by decide +kernel
theorem dX7_sweeps_174 : decode cX7_sweeps 174 = .ok (.bipush 48, 2) := by decide +kernel
theorem dX7_sweeps_176 : decode cX7_sweeps 176 = .ok (.iload_n 1, 1) := by decide +kernel
theorem dX7_sweeps_177 : decode cX7_sweeps 177 = .ok (.iadd, 1) := by decide +kernel
theorem dX7_sweeps_178 : decode cX7_sweeps 178 = .ok (.iaload, 1) := by decide +kernel
theorem dX7_sweeps_179 : decode cX7_sweeps 179 = .ok (.iastore, 1) := by decide +kernel
theorem dX7_sweeps_180 : decode cX7_sweeps 180 = .ok (.iinc 1 1, 3) := by decide +kernel
theorem dX7_sweeps_183 : decode cX7_sweeps 183 = .ok (.goto (-99), 3) := by decide +kernel
theorem dX7_sweeps_186 : decode cX7_sweeps 186 = .ok (.return_, 1) := by decide +kernel
theorem dX7_wet_0 : decode cX7_wet 0 = .ok (.iconst 0, 1) := by decide +kernel
theorem dX7_wet_1 : decode cX7_wet 1 = .ok (.istore_n 1, 1) := by decide +kernel
theorem dX7_wet_2 : decode cX7_wet 2 = .ok (.iconst 0, 1) := by decide +kernel
theorem dX7_wet_3 : decode cX7_wet 3 = .ok (.istore_n 2, 1) := by decide +kernel
theorem dX7_wet_4 : decode cX7_wet 4 = .ok (.iload_n 2, 1) := by decide +kernel
theorem dX7_wet_5 : decode cX7_wet 5 = .ok (.bipush 48, 2) := by decide +kernel
theorem dX7_wet_7 : decode cX7_wet 7 = .ok (.if_icmp .ge 25, 3) := by decide +kernel
theorem dX7_wet_10 : decode cX7_wet 10 = .ok (.iload_n 1, 1) := by decide +kernel
theorem dX7_wet_11 : decode cX7_wet 11 = .ok (.aload_n 0, 1) := by decide +kernel
theorem dX7_wet_12 : decode cX7_wet 12 = .ok (.iload_n 2, 1) := by decide +kernel
theorem dX7_wet_13 : decode cX7_wet 13 = .ok (.invokevirtual 173, 3) := by decide +kernel
theorem dX7_wet_16 : decode cX7_wet 16 = .ok (.ifCond .eq 7, 3) := by decide +kernel
theorem dX7_wet_19 : decode cX7_wet 19 = .ok (.iconst 1, 1) := by decide +kernel
theorem dX7_wet_20 : decode cX7_wet 20 = .ok (.goto 4, 3) := by decide +kernel
theorem dX7_wet_23 : decode cX7_wet 23 = .ok (.iconst 0, 1) := by decide +kernel
theorem dX7_wet_24 : decode cX7_wet 24 = .ok (.iadd, 1) := by decide +kernel
theorem dX7_wet_25 : decode cX7_wet 25 = .ok (.istore_n 1, 1) := by decide +kernel
theorem dX7_wet_26 : decode cX7_wet 26 = .ok (.iinc 2 1, 3) := by decide +kernel
theorem dX7_wet_29 : decode cX7_wet 29 = .ok (.goto (-25), 3) := by decide +kernel
theorem dX7_wet_32 : decode cX7_wet 32 = .ok (.iload_n 1, 1) := by decide +kernel
theorem dX7_wet_33 : decode cX7_wet 33 = .ok (.ireturn, 1) := by decide +kernel
theorem dX7_sweep_0 : decode cX7_sweep 0 = .ok (.aload_n 0, 1) := by decide +kernel
theorem dX7_sweep_1 : decode cX7_sweep 1 = .ok (.iconst 0, 1) := by decide +kernel
theorem dX7_sweep_2 : decode cX7_sweep 2 = .ok (.putfield 75, 3) := by decide +kernel
theorem dX7_sweep_5 : decode cX7_sweep 5 = .ok (.iload_n 1, 1) := by decide +kernel
theorem dX7_sweep_6 : decode cX7_sweep 6 = .ok (.iconst 1, 1) := by decide +kernel
theorem dX7_sweep_7 : decode cX7_sweep 7 = .ok (.bipush 100, 2) := by decide +kernel
theorem dX7_sweep_9 : decode cX7_sweep 9 = .ok (.invokestatic 78, 3) := by decide +kernel
theorem dX7_sweep_12 : decode cX7_sweep 12 = .ok (.ifCond .ne 5, 3) := by decide +kernel
theorem dX7_sweep_15 : decode cX7_sweep 15 = .ok (.iconst (-1), 1) := by decide +kernel
theorem dX7_sweep_16 : decode cX7_sweep 16 = .ok (.ireturn, 1) := by decide +kernel
theorem dX7_sweep_17 : decode cX7_sweep 17 = .ok (.iconst 0, 1) := by decide +kernel
theorem dX7_sweep_18 : decode cX7_sweep 18 = .ok (.istore_n 2, 1) := by decide +kernel
theorem dX7_sweep_19 : decode cX7_sweep 19 = .ok (.iload_n 2, 1) := by decide +kernel
theorem dX7_sweep_20 : decode cX7_sweep 20 = .ok (.iload_n 1, 1) := by decide +kernel
theorem dX7_sweep_21 : decode cX7_sweep 21 = .ok (.if_icmp .ge 13, 3) := by decide +kernel
theorem dX7_sweep_24 : decode cX7_sweep 24 = .ok (.aload_n 0, 1) := by decide +kernel
theorem dX7_sweep_25 : decode cX7_sweep 25 = .ok (.invokevirtual 176, 3) := by decide +kernel
theorem dX7_sweep_28 : decode cX7_sweep 28 = .ok (.iinc 2 1, 3) := by decide +kernel
theorem dX7_sweep_31 : decode cX7_sweep 31 = .ok (.goto (-12), 3) := by decide +kernel
theorem dX7_sweep_34 : decode cX7_sweep 34 = .ok (.aload_n 0, 1) := by decide +kernel
theorem dX7_sweep_35 : decode cX7_sweep 35 = .ok (.invokevirtual 179, 3) := by decide +kernel
theorem dX7_sweep_38 : decode cX7_sweep 38 = .ok (.ireturn, 1) := by decide +kernel
theorem dX7_seep_0 : decode cX7_seep 0 = .ok (.aload_n 0, 1) := by decide +kernel
theorem dX7_seep_1 : decode cX7_seep 1 = .ok (.iconst 0, 1) := by decide +kernel
theorem dX7_seep_2 : decode cX7_seep 2 = .ok (.putfield 75, 3) := by decide +kernel
theorem dX7_seep_5 : decode cX7_seep 5 = .ok (.aload_n 0, 1) := by decide +kernel
theorem dX7_seep_6 : decode cX7_seep 6 = .ok (.bipush 7, 2) := by decide +kernel
theorem dX7_seep_8 : decode cX7_seep 8 = .ok (.invokevirtual 82, 3) := by decide +kernel
theorem dX7_seep_11 : decode cX7_seep 11 = .ok (.ifCond .eq 17, 3) := by decide +kernel
theorem dX7_seep_14 : decode cX7_seep 14 = .ok (.aload_n 0, 1) := by decide +kernel
theorem dX7_seep_15 : decode cX7_seep 15 = .ok (.bipush 7, 2) := by decide +kernel
theorem dX7_seep_17 : decode cX7_seep 17 = .ok (.iconst 1, 1) := by decide +kernel
theorem dX7_seep_18 : decode cX7_seep 18 = .ok (.invokevirtual 169, 3) := by decide +kernel
theorem dX7_seep_21 : decode cX7_seep 21 = .ok (.sipush 1000, 3) := by decide +kernel
theorem dX7_seep_24 : decode cX7_seep 24 = .ok (.idiv, 1) := by decide +kernel
theorem dX7_seep_25 : decode cX7_seep 25 = .ok (.goto 4, 3) := by decide +kernel
theorem dX7_seep_28 : decode cX7_seep 28 = .ok (.iconst 0, 1) := by decide +kernel
theorem dX7_seep_29 : decode cX7_seep 29 = .ok (.ireturn, 1) := by decide +kernel
theorem dX7_dries_0 : decode cX7_dries 0 = .ok (.iconst 0, 1) := by decide +kernel
theorem dX7_dries_1 : decode cX7_dries 1 = .ok (.istore_n 1, 1) := by decide +kernel
theorem dX7_dries_2 : decode cX7_dries 2 = .ok (.iconst 0, 1) := by decide +kernel
theorem dX7_dries_3 : decode cX7_dries 3 = .ok (.istore_n 2, 1) := by decide +kernel
theorem dX7_dries_4 : decode cX7_dries 4 = .ok (.iload_n 2, 1) := by decide +kernel
theorem dX7_dries_5 : decode cX7_dries 5 = .ok (.bipush 48, 2) := by decide +kernel
theorem dX7_dries_7 : decode cX7_dries 7 = .ok (.if_icmp .ge 39, 3) := by decide +kernel
theorem dX7_dries_10 : decode cX7_dries 10 = .ok (.iload_n 1, 1) := by decide +kernel
theorem dX7_dries_11 : decode cX7_dries 11 = .ok (.aload_n 0, 1) := by decide +kernel
theorem dX7_dries_12 : decode cX7_dries 12 = .ok (.getfield 7, 3) := by decide +kernel
theorem dX7_dries_15 : decode cX7_dries 15 = .ok (.bipush 48, 2) := by decide +kernel
theorem dX7_dries_17 : decode cX7_dries 17 = .ok (.iload_n 2, 1) := by decide +kernel
theorem dX7_dries_18 : decode cX7_dries 18 = .ok (.iadd, 1) := by decide +kernel
theorem dX7_dries_19 : decode cX7_dries 19 = .ok (.iaload, 1) := by decide +kernel
theorem dX7_dries_20 : decode cX7_dries 20 = .ok (.ifCond .le 7, 3) := by decide +kernel
theorem dX7_dries_23 : decode cX7_dries 23 = .ok (.iconst 1, 1) := by decide +kernel
theorem dX7_dries_24 : decode cX7_dries 24 = .ok (.goto 4, 3) := by decide +kernel
theorem dX7_dries_27 : decode cX7_dries 27 = .ok (.iconst 0, 1) := by decide +kernel
theorem dX7_dries_28 : decode cX7_dries 28 = .ok (.iadd, 1) := by decide +kernel
theorem dX7_dries_29 : decode cX7_dries 29 = .ok (.istore_n 1, 1) := by decide +kernel
theorem dX7_dries_30 : decode cX7_dries 30 = .ok (.aload_n 0, 1) := by decide +kernel
theorem dX7_dries_31 : decode cX7_dries 31 = .ok (.getfield 7, 3) := by decide +kernel
theorem dX7_dries_34 : decode cX7_dries 34 = .ok (.bipush 48, 2) := by decide +kernel
theorem dX7_dries_36 : decode cX7_dries 36 = .ok (.iload_n 2, 1) := by decide +kernel
theorem dX7_dries_37 : decode cX7_dries 37 = .ok (.iadd, 1) := by decide +kernel
theorem dX7_dries_38 : decode cX7_dries 38 = .ok (.iconst 0, 1) := by decide +kernel
theorem dX7_dries_39 : decode cX7_dries 39 = .ok (.iastore, 1) := by decide +kernel
theorem dX7_dries_40 : decode cX7_dries 40 = .ok (.iinc 2 1, 3) := by decide +kernel
theorem dX7_dries_43 : decode cX7_dries 43 = .ok (.goto (-39), 3) := by decide +kernel
theorem dX7_dries_46 : decode cX7_dries 46 = .ok (.iload_n 1, 1) := by decide +kernel
theorem dX7_dries_47 : decode cX7_dries 47 = .ok (.ireturn, 1) := by decide +kernel
theorem dX7_dry_0 : decode cX7_dry 0 = .ok (.aload_n 0, 1) := by decide +kernel
theorem dX7_dry_1 : decode cX7_dry 1 = .ok (.iconst 0, 1) := by decide +kernel
theorem dX7_dry_2 : decode cX7_dry 2 = .ok (.putfield 75, 3) := by decide +kernel
theorem dX7_dry_5 : decode cX7_dry 5 = .ok (.aload_n 0, 1) := by decide +kernel
theorem dX7_dry_6 : decode cX7_dry 6 = .ok (.invokevirtual 182, 3) := by decide +kernel
theorem dX7_dry_9 : decode cX7_dry 9 = .ok (.ireturn, 1) := by decide +kernel
theorem dX7_nothing_0 : decode cX7_nothing 0 = .ok (.iconst 0, 1) := by decide +kernel
theorem dX7_nothing_1 : decode cX7_nothing 1 = .ok (.istore_n 1, 1) := by decide +kernel
theorem dX7_nothing_2 : decode cX7_nothing 2 = .ok (.iload_n 1, 1) := by decide +kernel
theorem dX7_nothing_3 : decode cX7_nothing 3 = .ok (.bipush 8, 2) := by decide +kernel
theorem dX7_nothing_5 : decode cX7_nothing 5 = .ok (.if_icmp .ge 16, 3) := by decide +kernel
theorem dX7_nothing_8 : decode cX7_nothing 8 = .ok (.aload_n 0, 1) := by decide +kernel
theorem dX7_nothing_9 : decode cX7_nothing 9 = .ok (.getfield 39, 3) := by decide +kernel
theorem dX7_nothing_12 : decode cX7_nothing 12 = .ok (.iload_n 1, 1) := by decide +kernel
theorem dX7_nothing_13 : decode cX7_nothing 13 = .ok (.iconst 0, 1) := by decide +kernel
theorem dX7_nothing_14 : decode cX7_nothing 14 = .ok (.iastore, 1) := by decide +kernel
theorem dX7_nothing_15 : decode cX7_nothing 15 = .ok (.iinc 1 1, 3) := by decide +kernel
theorem dX7_nothing_18 : decode cX7_nothing 18 = .ok (.goto (-16), 3) := by decide +kernel
theorem dX7_nothing_21 : decode cX7_nothing 21 = .ok (.iconst 0, 1) := by decide +kernel
theorem dX7_nothing_22 : decode cX7_nothing 22 = .ok (.istore_n 1, 1) := by decide +kernel
theorem dX7_nothing_23 : decode cX7_nothing 23 = .ok (.iload_n 1, 1) := by decide +kernel
theorem dX7_nothing_24 : decode cX7_nothing 24 = .ok (.bipush 48, 2) := by decide +kernel
theorem dX7_nothing_26 : decode cX7_nothing 26 = .ok (.if_icmp .ge 16, 3) := by decide +kernel
theorem dX7_nothing_29 : decode cX7_nothing 29 = .ok (.aload_n 0, 1) := by decide +kernel
theorem dX7_nothing_30 : decode cX7_nothing 30 = .ok (.getfield 42, 3) := by decide +kernel
theorem dX7_nothing_33 : decode cX7_nothing 33 = .ok (.iload_n 1, 1) := by decide +kernel
theorem dX7_nothing_34 : decode cX7_nothing 34 = .ok (.iconst 0, 1) := by decide +kernel
theorem dX7_nothing_35 : decode cX7_nothing 35 = .ok (.bastore, 1) := by decide +kernel
theorem dX7_nothing_36 : decode cX7_nothing 36 = .ok (.iinc 1 1, 3) := by decide +kernel
theorem dX7_nothing_39 : decode cX7_nothing 39 = .ok (.goto (-16), 3) := by decide +kernel
theorem dX7_nothing_42 : decode cX7_nothing 42 = .ok (.return_, 1) := by decide +kernel
theorem dX7_counts_0 : decode cX7_counts 0 = .ok (.aload_n 0, 1) := by decide +kernel
theorem dX7_counts_1 : decode cX7_counts 1 = .ok (.iload_n 1, 1) := by decide +kernel
theorem dX7_counts_2 : decode cX7_counts 2 = .ok (.invokevirtual 173, 3) := by decide +kernel
theorem dX7_counts_5 : decode cX7_counts 5 = .ok (.ifCond .eq 16, 3) := by decide +kernel
theorem dX7_counts_8 : decode cX7_counts 8 = .ok (.aload_n 0, 1) := by decide +kernel
theorem dX7_counts_9 : decode cX7_counts 9 = .ok (.getfield 42, 3) := by decide +kernel
theorem dX7_counts_12 : decode cX7_counts 12 = .ok (.iload_n 1, 1) := by decide +kernel
theorem dX7_counts_13 : decode cX7_counts 13 = .ok (.baload, 1) := by decide +kernel
theorem dX7_counts_14 : decode cX7_counts 14 = .ok (.ifCond .ne 7, 3) := by decide +kernel
theorem dX7_counts_17 : decode cX7_counts 17 = .ok (.iconst 1, 1) := by decide +kernel
theorem dX7_counts_18 : decode cX7_counts 18 = .ok (.goto 4, 3) := by decide +kernel
theorem dX7_counts_21 : decode cX7_counts 21 = .ok (.iconst 0, 1) := by decide +kernel
theorem dX7_counts_22 : decode cX7_counts 22 = .ok (.ireturn, 1) := by decide +kernel
theorem dX7_marginOf_0 : decode cX7_marginOf 0 = .ok (.iconst 0, 1) := by decide +kernel
theorem dX7_marginOf_1 : decode cX7_marginOf 1 = .ok (.istore_n 2, 1) := by decide +kernel
theorem dX7_marginOf_2 : decode cX7_marginOf 2 = .ok (.iconst 0, 1) := by decide +kernel
theorem dX7_marginOf_3 : decode cX7_marginOf 3 = .ok (.istore_n 3, 1) := by decide +kernel
theorem dX7_marginOf_4 : decode cX7_marginOf 4 = .ok (.iload_n 1, 1) := by decide +kernel
theorem dX7_marginOf_5 : decode cX7_marginOf 5 = .ok (.istore 4, 2) := by decide +kernel
theorem dX7_marginOf_7 : decode cX7_marginOf 7 = .ok (.iload 4, 2) := by decide +kernel
theorem dX7_marginOf_9 : decode cX7_marginOf 9 = .ok (.bipush 8, 2) := by decide +kernel
theorem dX7_marginOf_11 : decode cX7_marginOf 11 = .ok (.if_icmp .ge 170, 3) := by decide +kernel
theorem dX7_marginOf_14 : decode cX7_marginOf 14 = .ok (.iconst 0, 1) := by decide +kernel
theorem dX7_marginOf_15 : decode cX7_marginOf 15 = .ok (.istore 5, 2) := by decide +kernel
theorem dX7_marginOf_17 : decode cX7_marginOf 17 = .ok (.aload_n 0, 1) := by decide +kernel
theorem dX7_marginOf_18 : decode cX7_marginOf 18 = .ok (.getfield 33, 3) := by decide +kernel
theorem dX7_marginOf_21 : decode cX7_marginOf 21 = .ok (.iload 4, 2) := by decide +kernel
theorem dX7_marginOf_23 : decode cX7_marginOf 23 = .ok (.iaload, 1) := by decide +kernel
theorem dX7_marginOf_24 : decode cX7_marginOf 24 = .ok (.iconst 1, 1) := by decide +kernel
theorem dX7_marginOf_25 : decode cX7_marginOf 25 = .ok (.iadd, 1) := by decide +kernel
theorem dX7_marginOf_26 : decode cX7_marginOf 26 = .ok (.istore 6, 2) := by decide +kernel
theorem dX7_marginOf_28 : decode cX7_marginOf 28 = .ok (.iload 6, 2) := by decide +kernel
theorem dX7_marginOf_30 : decode cX7_marginOf 30 = .ok (.bipush 6, 2) := by decide +kernel
theorem dX7_marginOf_32 : decode cX7_marginOf 32 = .ok (.if_icmp .ge 51, 3) := by decide +kernel
theorem dX7_marginOf_35 : decode cX7_marginOf 35 = .ok (.bipush 8, 2) := by decide +kernel
theorem dX7_marginOf_37 : decode cX7_marginOf 37 = .ok (.iload 6, 2) := by decide +kernel
theorem dX7_marginOf_39 : decode cX7_marginOf 39 = .ok (.imul, 1) := by decide +kernel
theorem dX7_marginOf_40 : decode cX7_marginOf 40 = .ok (.iload 4, 2) := by decide +kernel
theorem dX7_marginOf_42 : decode cX7_marginOf 42 = .ok (.iadd, 1) := by decide +kernel
theorem dX7_marginOf_43 : decode cX7_marginOf 43 = .ok (.istore 7, 2) := by decide +kernel
theorem dX7_marginOf_45 : decode cX7_marginOf 45 = .ok (.iload 5, 2) := by decide +kernel
theorem dX7_marginOf_47 : decode cX7_marginOf 47 = .ok (.aload_n 0, 1) := by decide +kernel
theorem dX7_marginOf_48 : decode cX7_marginOf 48 = .ok (.iload 7, 2) := by decide +kernel
theorem dX7_marginOf_50 : decode cX7_marginOf 50 = .ok (.invokevirtual 82, 3) := by decide +kernel
theorem dX7_marginOf_53 : decode cX7_marginOf 53 = .ok (.ifCond .eq 20, 3) := by decide +kernel
theorem dX7_marginOf_56 : decode cX7_marginOf 56 = .ok (.aload_n 0, 1) := by decide +kernel
theorem dX7_marginOf_57 : decode cX7_marginOf 57 = .ok (.iload 7, 2) := by decide +kernel
theorem dX7_marginOf_59 : decode cX7_marginOf 59 = .ok (.invokevirtual 185, 3) := by decide +kernel
theorem dX7_marginOf_62 : decode cX7_marginOf 62 = .ok (.ifCond .eq 7, 3) := by decide +kernel
theorem dX7_marginOf_65 : decode cX7_marginOf 65 = .ok (.iconst 2, 1) := by decide +kernel
theorem dX7_marginOf_66 : decode cX7_marginOf 66 = .ok (.goto 8, 3) := by decide +kernel
theorem dX7_marginOf_69 : decode cX7_marginOf 69 = .ok (.iconst 1, 1) := by decide +kernel
theorem dX7_marginOf_70 : decode cX7_marginOf 70 = .ok (.goto 4, 3) := by decide +kernel
theorem dX7_marginOf_73 : decode cX7_marginOf 73 = .ok (.iconst 0, 1) := by decide +kernel
theorem dX7_marginOf_74 : decode cX7_marginOf 74 = .ok (.iadd, 1) := by decide +kernel
theorem dX7_marginOf_75 : decode cX7_marginOf 75 = .ok (.istore 5, 2) := by decide +kernel
theorem dX7_marginOf_77 : decode cX7_marginOf 77 = .ok (.iinc 6 1, 3) := by decide +kernel
theorem dX7_marginOf_80 : decode cX7_marginOf 80 = .ok (.goto (-52), 3) := by decide +kernel
theorem dX7_marginOf_83 : decode cX7_marginOf 83 = .ok (.aload_n 0, 1) := by decide +kernel
theorem dX7_marginOf_84 : decode cX7_marginOf 84 = .ok (.getfield 33, 3) := by decide +kernel
theorem dX7_marginOf_87 : decode cX7_marginOf 87 = .ok (.iload 4, 2) := by decide +kernel
theorem dX7_marginOf_89 : decode cX7_marginOf 89 = .ok (.iaload, 1) := by decide +kernel
theorem dX7_marginOf_90 : decode cX7_marginOf 90 = .ok (.iload 4, 2) := by decide +kernel
theorem dX7_marginOf_92 : decode cX7_marginOf 92 = .ok (.bipush 7, 2) := by decide +kernel
theorem dX7_marginOf_94 : decode cX7_marginOf 94 = .ok (.if_icmp .ne 7, 3) := by decide +kernel
theorem dX7_marginOf_97 : decode cX7_marginOf 97 = .ok (.iconst 0, 1) := by decide +kernel
theorem dX7_marginOf_98 : decode cX7_marginOf 98 = .ok (.goto 12, 3) := by decide +kernel
theorem dX7_marginOf_101 : decode cX7_marginOf 101 = .ok (.aload_n 0, 1) := by decide +kernel
theorem dX7_marginOf_102 : decode cX7_marginOf 102 = .ok (.getfield 33, 3) := by decide +kernel
theorem dX7_marginOf_105 : decode cX7_marginOf 105 = .ok (.iload 4, 2) := by decide +kernel
theorem dX7_marginOf_107 : decode cX7_marginOf 107 = .ok (.iconst 1, 1) := by decide +kernel
theorem dX7_marginOf_108 : decode cX7_marginOf 108 = .ok (.iadd, 1) := by decide +kernel
theorem dX7_marginOf_109 : decode cX7_marginOf 109 = .ok (.iaload, 1) := by decide +kernel
theorem dX7_marginOf_110 : decode cX7_marginOf 110 = .ok (.isub, 1) := by decide +kernel
theorem dX7_marginOf_111 : decode cX7_marginOf 111 = .ok (.istore 6, 2) := by decide +kernel
theorem dX7_marginOf_113 : decode cX7_marginOf 113 = .ok (.iload_n 2, 1) := by decide +kernel
theorem dX7_marginOf_114 : decode cX7_marginOf 114 = .ok (.iload 5, 2) := by decide +kernel
theorem dX7_marginOf_116 : decode cX7_marginOf 116 = .ok (.iconst 1, 1) := by decide +kernel
theorem dX7_marginOf_117 : decode cX7_marginOf 117 = .ok (.iload 6, 2) := by decide +kernel
theorem dX7_marginOf_119 : decode cX7_marginOf 119 = .ok (.iadd, 1) := by decide +kernel
theorem dX7_marginOf_120 : decode cX7_marginOf 120 = .ok (.imul, 1) := by decide +kernel
theorem dX7_marginOf_121 : decode cX7_marginOf 121 = .ok (.iadd, 1) := by decide +kernel
theorem dX7_marginOf_122 : decode cX7_marginOf 122 = .ok (.istore_n 2, 1) := by decide +kernel
theorem dX7_marginOf_123 : decode cX7_marginOf 123 = .ok (.bipush 8, 2) := by decide +kernel
theorem dX7_marginOf_125 : decode cX7_marginOf 125 = .ok (.aload_n 0, 1) := by decide +kernel
theorem dX7_marginOf_126 : decode cX7_marginOf 126 = .ok (.getfield 33, 3) := by decide +kernel
theorem dX7_marginOf_129 : decode cX7_marginOf 129 = .ok (.iload 4, 2) := by decide +kernel
theorem dX7_marginOf_131 : decode cX7_marginOf 131 = .ok (.iaload, 1) := by decide +kernel
theorem dX7_marginOf_132 : decode cX7_marginOf 132 = .ok (.imul, 1) := by decide +kernel
theorem dX7_marginOf_133 : decode cX7_marginOf 133 = .ok (.iload 4, 2) := by decide +kernel
theorem dX7_marginOf_135 : decode cX7_marginOf 135 = .ok (.iadd, 1) := by decide +kernel
theorem dX7_marginOf_136 : decode cX7_marginOf 136 = .ok (.istore 7, 2) := by decide +kernel
theorem dX7_marginOf_138 : decode cX7_marginOf 138 = .ok (.aload_n 0, 1) := by decide +kernel
theorem dX7_marginOf_139 : decode cX7_marginOf 139 = .ok (.iload 7, 2) := by decide +kernel
theorem dX7_marginOf_141 : decode cX7_marginOf 141 = .ok (.invokevirtual 160, 3) := by decide +kernel
theorem dX7_marginOf_144 : decode cX7_marginOf 144 = .ok (.aload_n 0, 1) := by decide +kernel
theorem dX7_marginOf_145 : decode cX7_marginOf 145 = .ok (.getfield 39, 3) := by decide +kernel
theorem dX7_marginOf_148 : decode cX7_marginOf 148 = .ok (.iload 4, 2) := by decide +kernel
theorem dX7_marginOf_150 : decode cX7_marginOf 150 = .ok (.iaload, 1) := by decide +kernel
theorem dX7_marginOf_151 : decode cX7_marginOf 151 = .ok (.iadd, 1) := by decide +kernel
theorem dX7_marginOf_152 : decode cX7_marginOf 152 = .ok (.istore 8, 2) := by decide +kernel
theorem dX7_marginOf_154 : decode cX7_marginOf 154 = .ok (.iload_n 3, 1) := by decide +kernel
theorem dX7_marginOf_155 : decode cX7_marginOf 155 = .ok (.aload_n 0, 1) := by decide +kernel
theorem dX7_marginOf_156 : decode cX7_marginOf 156 = .ok (.iload 7, 2) := by decide +kernel
theorem dX7_marginOf_158 : decode cX7_marginOf 158 = .ok (.invokevirtual 185, 3) := by decide +kernel
theorem dX7_marginOf_161 : decode cX7_marginOf 161 = .ok (.ifCond .eq 10, 3) := by decide +kernel
theorem dX7_marginOf_164 : decode cX7_marginOf 164 = .ok (.iload 8, 2) := by decide +kernel
theorem dX7_marginOf_166 : decode cX7_marginOf 166 = .ok (.iconst 2, 1) := by decide +kernel
theorem dX7_marginOf_167 : decode cX7_marginOf 167 = .ok (.idiv, 1) := by decide +kernel
theorem dX7_marginOf_168 : decode cX7_marginOf 168 = .ok (.goto 5, 3) := by decide +kernel
theorem dX7_marginOf_171 : decode cX7_marginOf 171 = .ok (.iload 8, 2) := by decide +kernel
theorem dX7_marginOf_173 : decode cX7_marginOf 173 = .ok (.iadd, 1) := by decide +kernel
theorem dX7_marginOf_174 : decode cX7_marginOf 174 = .ok (.istore_n 3, 1) := by decide +kernel
theorem dX7_marginOf_175 : decode cX7_marginOf 175 = .ok (.iinc 4 1, 3) := by decide +kernel
theorem dX7_marginOf_178 : decode cX7_marginOf 178 = .ok (.goto (-171), 3) := by decide +kernel
theorem dX7_marginOf_181 : decode cX7_marginOf 181 = .ok (.iload_n 2, 1) := by decide +kernel
theorem dX7_marginOf_182 : decode cX7_marginOf 182 = .ok (.ifCond .ne 9, 3) := by decide +kernel
theorem dX7_marginOf_185 : decode cX7_marginOf 185 = .ok (.sipush 9999, 3) := by decide +kernel
theorem dX7_marginOf_188 : decode cX7_marginOf 188 = .ok (.goto 9, 3) := by decide +kernel
theorem dX7_marginOf_191 : decode cX7_marginOf 191 = .ok (.bipush 100, 2) := by decide +kernel
theorem dX7_marginOf_193 : decode cX7_marginOf 193 = .ok (.iload_n 3, 1) := by decide +kernel
theorem dX7_marginOf_194 : decode cX7_marginOf 194 = .ok (.imul, 1) := by decide +kernel
theorem dX7_marginOf_195 : decode cX7_marginOf 195 = .ok (.iload_n 2, 1) := by decide +kernel
theorem dX7_marginOf_196 : decode cX7_marginOf 196 = .ok (.idiv, 1) := by decide +kernel
theorem dX7_marginOf_197 : decode cX7_marginOf 197 = .ok (.istore 4, 2) := by decide +kernel
theorem dX7_marginOf_199 : decode cX7_marginOf 199 = .ok (.iload 4, 2) := by decide +kernel
theorem dX7_marginOf_201 : decode cX7_marginOf 201 = .ok (.sipush 9999, 3) := by decide +kernel
theorem dX7_marginOf_204 : decode cX7_marginOf 204 = .ok (.if_icmp .le 9, 3) := by decide +kernel
theorem dX7_marginOf_207 : decode cX7_marginOf 207 = .ok (.sipush 9999, 3) := by decide +kernel
theorem dX7_marginOf_210 : decode cX7_marginOf 210 = .ok (.goto 5, 3) := by decide +kernel
theorem dX7_marginOf_213 : decode cX7_marginOf 213 = .ok (.iload 4, 2) := by decide +kernel
theorem dX7_marginOf_215 : decode cX7_marginOf 215 = .ok (.ireturn, 1) := by decide +kernel
theorem dX7_goes_0 : decode cX7_goes 0 = .ok (.aload_n 0, 1) := by decide +kernel
theorem dX7_goes_1 : decode cX7_goes 1 = .ok (.bipush (-9), 2) := by decide +kernel
theorem dX7_goes_3 : decode cX7_goes 3 = .ok (.putfield 188, 3) := by decide +kernel
theorem dX7_goes_6 : decode cX7_goes 6 = .ok (.aload_n 0, 1) := by decide +kernel
theorem dX7_goes_7 : decode cX7_goes 7 = .ok (.iconst 0, 1) := by decide +kernel
theorem dX7_goes_8 : decode cX7_goes 8 = .ok (.putfield 191, 3) := by decide +kernel
theorem dX7_goes_11 : decode cX7_goes 11 = .ok (.iconst 0, 1) := by decide +kernel
theorem dX7_goes_12 : decode cX7_goes 12 = .ok (.istore_n 2, 1) := by decide +kernel
theorem dX7_goes_13 : decode cX7_goes 13 = .ok (.iload_n 2, 1) := by decide +kernel
theorem dX7_goes_14 : decode cX7_goes 14 = .ok (.bipush 8, 2) := by decide +kernel
theorem dX7_goes_16 : decode cX7_goes 16 = .ok (.if_icmp .ge 230, 3) := by decide +kernel
theorem dX7_goes_19 : decode cX7_goes 19 = .ok (.iload_n 2, 1) := by decide +kernel
theorem dX7_goes_20 : decode cX7_goes 20 = .ok (.istore_n 3, 1) := by decide +kernel
theorem dX7_goes_21 : decode cX7_goes 21 = .ok (.aload_n 0, 1) := by decide +kernel
theorem dX7_goes_22 : decode cX7_goes 22 = .ok (.getfield 33, 3) := by decide +kernel
theorem dX7_goes_25 : decode cX7_goes 25 = .ok (.iload_n 3, 1) := by decide +kernel
theorem dX7_goes_26 : decode cX7_goes 26 = .ok (.iconst (-1), 1) := by decide +kernel
theorem dX7_goes_27 : decode cX7_goes 27 = .ok (.iastore, 1) := by decide +kernel
theorem dX7_goes_28 : decode cX7_goes 28 = .ok (.iload_n 3, 1) := by decide +kernel
theorem dX7_goes_29 : decode cX7_goes 29 = .ok (.iload_n 2, 1) := by decide +kernel
theorem dX7_goes_30 : decode cX7_goes 30 = .ok (.if_icmp .lt 210, 3) := by decide +kernel
theorem dX7_goes_33 : decode cX7_goes 33 = .ok (.iload_n 3, 1) := by decide +kernel
theorem dX7_goes_34 : decode cX7_goes 34 = .ok (.iload_n 2, 1) := by decide +kernel
theorem dX7_goes_35 : decode cX7_goes 35 = .ok (.if_icmp .ne 7, 3) := by decide +kernel
theorem dX7_goes_38 : decode cX7_goes 38 = .ok (.iconst 5, 1) := by decide +kernel
theorem dX7_goes_39 : decode cX7_goes 39 = .ok (.goto 11, 3) := by decide +kernel
theorem dX7_goes_42 : decode cX7_goes 42 = .ok (.aload_n 0, 1) := by decide +kernel
theorem dX7_goes_43 : decode cX7_goes 43 = .ok (.getfield 33, 3) := by decide +kernel
theorem dX7_goes_46 : decode cX7_goes 46 = .ok (.iload_n 3, 1) := by decide +kernel
theorem dX7_goes_47 : decode cX7_goes 47 = .ok (.iconst 1, 1) := by decide +kernel
theorem dX7_goes_48 : decode cX7_goes 48 = .ok (.isub, 1) := by decide +kernel
theorem dX7_goes_49 : decode cX7_goes 49 = .ok (.iaload, 1) := by decide +kernel
theorem dX7_goes_50 : decode cX7_goes 50 = .ok (.istore 4, 2) := by decide +kernel
theorem dX7_goes_52 : decode cX7_goes 52 = .ok (.aload_n 0, 1) := by decide +kernel
theorem dX7_goes_53 : decode cX7_goes 53 = .ok (.getfield 33, 3) := by decide +kernel
theorem dX7_goes_56 : decode cX7_goes 56 = .ok (.iload_n 3, 1) := by decide +kernel
theorem dX7_goes_57 : decode cX7_goes 57 = .ok (.dup2, 1) := by decide +kernel
theorem dX7_goes_58 : decode cX7_goes 58 = .ok (.iaload, 1) := by decide +kernel
theorem dX7_goes_59 : decode cX7_goes 59 = .ok (.iconst 1, 1) := by decide +kernel
theorem dX7_goes_60 : decode cX7_goes 60 = .ok (.iadd, 1) := by decide +kernel
theorem dX7_goes_61 : decode cX7_goes 61 = .ok (.iastore, 1) := by decide +kernel
theorem dX7_goes_62 : decode cX7_goes 62 = .ok (.aload_n 0, 1) := by decide +kernel
theorem dX7_goes_63 : decode cX7_goes 63 = .ok (.getfield 33, 3) := by decide +kernel
theorem dX7_goes_66 : decode cX7_goes 66 = .ok (.iload_n 3, 1) := by decide +kernel
theorem dX7_goes_67 : decode cX7_goes 67 = .ok (.iaload, 1) := by decide +kernel
theorem dX7_goes_68 : decode cX7_goes 68 = .ok (.iload 4, 2) := by decide +kernel
theorem dX7_goes_70 : decode cX7_goes 70 = .ok (.if_icmp .gt 34, 3) := by decide +kernel
theorem dX7_goes_73 : decode cX7_goes 73 = .ok (.aload_n 0, 1) := by decide +kernel
theorem dX7_goes_74 : decode cX7_goes 74 = .ok (.bipush 8, 2) := by decide +kernel
theorem dX7_goes_76 : decode cX7_goes 76 = .ok (.aload_n 0, 1) := by decide +kernel
theorem dX7_goes_77 : decode cX7_goes 77 = .ok (.getfield 33, 3) := by decide +kernel
theorem dX7_goes_80 : decode cX7_goes 80 = .ok (.iload_n 3, 1) := by decide +kernel
theorem dX7_goes_81 : decode cX7_goes 81 = .ok (.iaload, 1) := by decide +kernel
theorem dX7_goes_82 : decode cX7_goes 82 = .ok (.imul, 1) := by decide +kernel
theorem dX7_goes_83 : decode cX7_goes 83 = .ok (.iload_n 3, 1) := by decide +kernel
theorem dX7_goes_84 : decode cX7_goes 84 = .ok (.iadd, 1) := by decide +kernel
theorem dX7_goes_85 : decode cX7_goes 85 = .ok (.invokevirtual 82, 3) := by decide +kernel
theorem dX7_goes_88 : decode cX7_goes 88 = .ok (.ifCond .ne 16, 3) := by decide +kernel
theorem dX7_goes_91 : decode cX7_goes 91 = .ok (.aload_n 0, 1) := by decide +kernel
theorem dX7_goes_92 : decode cX7_goes 92 = .ok (.getfield 33, 3) := by decide +kernel
theorem dX7_goes_95 : decode cX7_goes 95 = .ok (.iload_n 3, 1) := by decide +kernel
theorem dX7_goes_96 : decode cX7_goes 96 = .ok (.dup2, 1) := by decide +kernel
theorem dX7_goes_97 : decode cX7_goes 97 = .ok (.iaload, 1) := by decide +kernel
theorem dX7_goes_98 : decode cX7_goes 98 = .ok (.iconst 1, 1) := by decide +kernel
theorem dX7_goes_99 : decode cX7_goes 99 = .ok (.iadd, 1) := by decide +kernel
theorem dX7_goes_100 : decode cX7_goes 100 = .ok (.iastore, 1) := by decide +kernel
theorem dX7_goes_101 : decode cX7_goes 101 = .ok (.goto (-39), 3) := by decide +kernel
theorem dX7_goes_104 : decode cX7_goes 104 = .ok (.aload_n 0, 1) := by decide +kernel
theorem dX7_goes_105 : decode cX7_goes 105 = .ok (.getfield 33, 3) := by decide +kernel
theorem dX7_goes_108 : decode cX7_goes 108 = .ok (.iload_n 3, 1) := by decide +kernel
theorem dX7_goes_109 : decode cX7_goes 109 = .ok (.iaload, 1) := by decide +kernel
theorem dX7_goes_110 : decode cX7_goes 110 = .ok (.iload 4, 2) := by decide +kernel
theorem dX7_goes_112 : decode cX7_goes 112 = .ok (.if_icmp .le 9, 3) := by decide +kernel
theorem dX7_goes_115 : decode cX7_goes 115 = .ok (.iinc 3 (-1), 3) := by decide +kernel
theorem dX7_goes_118 : decode cX7_goes 118 = .ok (.goto 119, 3) := by decide +kernel
theorem dX7_goes_121 : decode cX7_goes 121 = .ok (.iload_n 3, 1) := by decide +kernel
theorem dX7_goes_122 : decode cX7_goes 122 = .ok (.bipush 7, 2) := by decide +kernel
theorem dX7_goes_124 : decode cX7_goes 124 = .ok (.if_icmp .ge 16, 3) := by decide +kernel
theorem dX7_goes_127 : decode cX7_goes 127 = .ok (.iinc 3 1, 3) := by decide +kernel
theorem dX7_goes_130 : decode cX7_goes 130 = .ok (.aload_n 0, 1) := by decide +kernel
theorem dX7_goes_131 : decode cX7_goes 131 = .ok (.getfield 33, 3) := by decide +kernel
theorem dX7_goes_134 : decode cX7_goes 134 = .ok (.iload_n 3, 1) := by decide +kernel
theorem dX7_goes_135 : decode cX7_goes 135 = .ok (.iconst (-1), 1) := by decide +kernel
theorem dX7_goes_136 : decode cX7_goes 136 = .ok (.iastore, 1) := by decide +kernel
theorem dX7_goes_137 : decode cX7_goes 137 = .ok (.goto 100, 3) := by decide +kernel
theorem dX7_goes_140 : decode cX7_goes 140 = .ok (.aload_n 0, 1) := by decide +kernel
theorem dX7_goes_141 : decode cX7_goes 141 = .ok (.iload_n 2, 1) := by decide +kernel
theorem dX7_goes_142 : decode cX7_goes 142 = .ok (.invokevirtual 194, 3) := by decide +kernel
theorem dX7_goes_145 : decode cX7_goes 145 = .ok (.istore 5, 2) := by decide +kernel
theorem dX7_goes_147 : decode cX7_goes 147 = .ok (.aload_n 0, 1) := by decide +kernel
theorem dX7_goes_148 : decode cX7_goes 148 = .ok (.dup, 1) := by decide +kernel
theorem dX7_goes_149 : decode cX7_goes 149 = .ok (.getfield 191, 3) := by decide +kernel
theorem dX7_goes_152 : decode cX7_goes 152 = .ok (.iload 5, 2) := by decide +kernel
theorem dX7_goes_154 : decode cX7_goes 154 = .ok (.iload_n 1, 1) := by decide +kernel
theorem dX7_goes_155 : decode cX7_goes 155 = .ok (.if_icmp .ge 7, 3) := by decide +kernel
theorem dX7_goes_158 : decode cX7_goes 158 = .ok (.iconst 1, 1) := by decide +kernel
theorem dX7_goes_159 : decode cX7_goes 159 = .ok (.goto 4, 3) := by decide +kernel
theorem dX7_goes_162 : decode cX7_goes 162 = .ok (.iconst 0, 1) := by decide +kernel
theorem dX7_goes_163 : decode cX7_goes 163 = .ok (.iadd, 1) := by decide +kernel
theorem dX7_goes_164 : decode cX7_goes 164 = .ok (.putfield 191, 3) := by decide +kernel
theorem dX7_goes_167 : decode cX7_goes 167 = .ok (.aload_n 0, 1) := by decide +kernel
theorem dX7_goes_168 : decode cX7_goes 168 = .ok (.getfield 188, 3) := by decide +kernel
theorem dX7_goes_171 : decode cX7_goes 171 = .ok (.bipush (-9), 2) := by decide +kernel
theorem dX7_goes_173 : decode cX7_goes 173 = .ok (.if_icmp .eq 12, 3) := by decide +kernel
theorem dX7_goes_176 : decode cX7_goes 176 = .ok (.iload 5, 2) := by decide +kernel
theorem dX7_goes_178 : decode cX7_goes 178 = .ok (.aload_n 0, 1) := by decide +kernel
theorem dX7_goes_179 : decode cX7_goes 179 = .ok (.getfield 188, 3) := by decide +kernel
theorem dX7_goes_182 : decode cX7_goes 182 = .ok (.if_icmp .ge 55, 3) := by decide +kernel
theorem dX7_goes_185 : decode cX7_goes 185 = .ok (.aload_n 0, 1) := by decide +kernel
theorem dX7_goes_186 : decode cX7_goes 186 = .ok (.iload 5, 2) := by decide +kernel
theorem dX7_goes_188 : decode cX7_goes 188 = .ok (.putfield 188, 3) := by decide +kernel
theorem dX7_goes_191 : decode cX7_goes 191 = .ok (.aload_n 0, 1) := by decide +kernel
theorem dX7_goes_192 : decode cX7_goes 192 = .ok (.iload_n 2, 1) := by decide +kernel
theorem dX7_goes_193 : decode cX7_goes 193 = .ok (.putfield 197, 3) := by decide +kernel
theorem dX7_goes_196 : decode cX7_goes 196 = .ok (.iconst 0, 1) := by decide +kernel
theorem dX7_goes_197 : decode cX7_goes 197 = .ok (.istore 6, 2) := by decide +kernel
theorem dX7_goes_199 : decode cX7_goes 199 = .ok (.iload 6, 2) := by decide +kernel
theorem dX7_goes_201 : decode cX7_goes 201 = .ok (.bipush 8, 2) := by decide +kernel
theorem dX7_goes_203 : decode cX7_goes 203 = .ok (.if_icmp .ge 34, 3) := by decide +kernel
theorem dX7_goes_206 : decode cX7_goes 206 = .ok (.aload_n 0, 1) := by decide +kernel
theorem dX7_goes_207 : decode cX7_goes 207 = .ok (.getfield 36, 3) := by decide +kernel
theorem dX7_goes_210 : decode cX7_goes 210 = .ok (.iload 6, 2) := by decide +kernel
theorem dX7_goes_212 : decode cX7_goes 212 = .ok (.iload 6, 2) := by decide +kernel
theorem dX7_goes_214 : decode cX7_goes 214 = .ok (.iload_n 2, 1) := by decide +kernel
theorem dX7_goes_215 : decode cX7_goes 215 = .ok (.if_icmp .ge 8, 3) := by decide +kernel
theorem dX7_goes_218 : decode cX7_goes 218 = .ok (.bipush (-9), 2) := by decide +kernel
theorem dX7_goes_220 : decode cX7_goes 220 = .ok (.goto 10, 3) := by decide +kernel
theorem dX7_goes_223 : decode cX7_goes 223 = .ok (.aload_n 0, 1) := by decide +kernel
theorem dX7_goes_224 : decode cX7_goes 224 = .ok (.getfield 33, 3) := by decide +kernel
theorem dX7_goes_227 : decode cX7_goes 227 = .ok (.iload 6, 2) := by decide +kernel
theorem dX7_goes_229 : decode cX7_goes 229 = .ok (.iaload, 1) := by decide +kernel
theorem dX7_goes_230 : decode cX7_goes 230 = .ok (.iastore, 1) := by decide +kernel
theorem dX7_goes_231 : decode cX7_goes 231 = .ok (.iinc 6 1, 3) := by decide +kernel
theorem dX7_goes_234 : decode cX7_goes 234 = .ok (.goto (-35), 3) := by decide +kernel
theorem dX7_goes_237 : decode cX7_goes 237 = .ok (.goto (-209), 3) := by decide +kernel
theorem dX7_goes_240 : decode cX7_goes 240 = .ok (.iinc 2 1, 3) := by decide +kernel
theorem dX7_goes_243 : decode cX7_goes 243 = .ok (.goto (-230), 3) := by decide +kernel
theorem dX7_goes_246 : decode cX7_goes 246 = .ok (.return_, 1) := by decide +kernel
theorem dX7_least_0 : decode cX7_least 0 = .ok (.aload_n 0, 1) := by decide +kernel
theorem dX7_least_1 : decode cX7_least 1 = .ok (.iconst 0, 1) := by decide +kernel
theorem dX7_least_2 : decode cX7_least 2 = .ok (.putfield 75, 3) := by decide +kernel
theorem dX7_least_5 : decode cX7_least 5 = .ok (.iload_n 1, 1) := by decide +kernel
theorem dX7_least_6 : decode cX7_least 6 = .ok (.bipush (-2), 2) := by decide +kernel
theorem dX7_least_8 : decode cX7_least 8 = .ok (.bipush 7, 2) := by decide +kernel
theorem dX7_least_10 : decode cX7_least 10 = .ok (.invokestatic 78, 3) := by decide +kernel
theorem dX7_least_13 : decode cX7_least 13 = .ok (.ifCond .ne 5, 3) := by decide +kernel
theorem dX7_least_16 : decode cX7_least 16 = .ok (.iconst (-1), 1) := by decide +kernel
theorem dX7_least_17 : decode cX7_least 17 = .ok (.ireturn, 1) := by decide +kernel
theorem dX7_least_18 : decode cX7_least 18 = .ok (.aload_n 0, 1) := by decide +kernel
theorem dX7_least_19 : decode cX7_least 19 = .ok (.invokevirtual 200, 3) := by decide +kernel
theorem dX7_least_22 : decode cX7_least 22 = .ok (.aload_n 0, 1) := by decide +kernel
theorem dX7_least_23 : decode cX7_least 23 = .ok (.iconst 0, 1) := by decide +kernel
theorem dX7_least_24 : decode cX7_least 24 = .ok (.invokevirtual 203, 3) := by decide +kernel
theorem dX7_least_27 : decode cX7_least 27 = .ok (.aload_n 0, 1) := by decide +kernel
theorem dX7_least_28 : decode cX7_least 28 = .ok (.getfield 188, 3) := by decide +kernel
theorem dX7_least_31 : decode cX7_least 31 = .ok (.bipush (-9), 2) := by decide +kernel
theorem dX7_least_33 : decode cX7_least 33 = .ok (.if_icmp .ne 8, 3) := by decide +kernel
theorem dX7_least_36 : decode cX7_least 36 = .ok (.bipush (-9), 2) := by decide +kernel
theorem dX7_least_38 : decode cX7_least 38 = .ok (.goto 34, 3) := by decide +kernel
theorem dX7_least_41 : decode cX7_least 41 = .ok (.iload_n 1, 1) := by decide +kernel
theorem dX7_least_42 : decode cX7_least 42 = .ok (.iconst (-1), 1) := by decide +kernel
theorem dX7_least_43 : decode cX7_least 43 = .ok (.if_icmp .ne 10, 3) := by decide +kernel
theorem dX7_least_46 : decode cX7_least 46 = .ok (.aload_n 0, 1) := by decide +kernel
theorem dX7_least_47 : decode cX7_least 47 = .ok (.getfield 188, 3) := by decide +kernel
theorem dX7_least_50 : decode cX7_least 50 = .ok (.goto 22, 3) := by decide +kernel
theorem dX7_least_53 : decode cX7_least 53 = .ok (.iload_n 1, 1) := by decide +kernel
theorem dX7_least_54 : decode cX7_least 54 = .ok (.bipush (-2), 2) := by decide +kernel
theorem dX7_least_56 : decode cX7_least 56 = .ok (.if_icmp .ne 10, 3) := by decide +kernel
theorem dX7_least_59 : decode cX7_least 59 = .ok (.aload_n 0, 1) := by decide +kernel
theorem dX7_least_60 : decode cX7_least 60 = .ok (.getfield 197, 3) := by decide +kernel
theorem dX7_least_63 : decode cX7_least 63 = .ok (.goto 9, 3) := by decide +kernel
theorem dX7_least_66 : decode cX7_least 66 = .ok (.aload_n 0, 1) := by decide +kernel
theorem dX7_least_67 : decode cX7_least 67 = .ok (.getfield 36, 3) := by decide +kernel
theorem dX7_least_70 : decode cX7_least 70 = .ok (.iload_n 1, 1) := by decide +kernel
theorem dX7_least_71 : decode cX7_least 71 = .ok (.iaload, 1) := by decide +kernel
theorem dX7_least_72 : decode cX7_least 72 = .ok (.ireturn, 1) := by decide +kernel
theorem dX7_ways_0 : decode cX7_ways 0 = .ok (.aload_n 0, 1) := by decide +kernel
theorem dX7_ways_1 : decode cX7_ways 1 = .ok (.iconst 0, 1) := by decide +kernel
theorem dX7_ways_2 : decode cX7_ways 2 = .ok (.putfield 75, 3) := by decide +kernel
theorem dX7_ways_5 : decode cX7_ways 5 = .ok (.iload_n 1, 1) := by decide +kernel
theorem dX7_ways_6 : decode cX7_ways 6 = .ok (.ifCond .ge 5, 3) := by decide +kernel
theorem dX7_ways_9 : decode cX7_ways 9 = .ok (.iconst (-1), 1) := by decide +kernel
theorem dX7_ways_10 : decode cX7_ways 10 = .ok (.ireturn, 1) := by decide +kernel
theorem dX7_ways_11 : decode cX7_ways 11 = .ok (.aload_n 0, 1) := by decide +kernel
theorem dX7_ways_12 : decode cX7_ways 12 = .ok (.invokevirtual 200, 3) := by decide +kernel
theorem dX7_ways_15 : decode cX7_ways 15 = .ok (.aload_n 0, 1) := by decide +kernel
theorem dX7_ways_16 : decode cX7_ways 16 = .ok (.iload_n 1, 1) := by decide +kernel
theorem dX7_ways_17 : decode cX7_ways 17 = .ok (.invokevirtual 203, 3) := by decide +kernel
theorem dX7_ways_20 : decode cX7_ways 20 = .ok (.aload_n 0, 1) := by decide +kernel
theorem dX7_ways_21 : decode cX7_ways 21 = .ok (.getfield 191, 3) := by decide +kernel
theorem dX7_ways_24 : decode cX7_ways 24 = .ok (.ireturn, 1) := by decide +kernel
theorem dX7_filter_0 : decode cX7_filter 0 = .ok (.aload_n 0, 1) := by decide +kernel
theorem dX7_filter_1 : decode cX7_filter 1 = .ok (.iconst 0, 1) := by decide +kernel
theorem dX7_filter_2 : decode cX7_filter 2 = .ok (.putfield 75, 3) := by decide +kernel
theorem dX7_filter_5 : decode cX7_filter 5 = .ok (.iload_n 1, 1) := by decide +kernel
theorem dX7_filter_6 : decode cX7_filter 6 = .ok (.iconst 2, 1) := by decide +kernel
theorem dX7_filter_7 : decode cX7_filter 7 = .ok (.bipush 9, 2) := by decide +kernel
theorem dX7_filter_9 : decode cX7_filter 9 = .ok (.invokestatic 78, 3) := by decide +kernel
theorem dX7_filter_12 : decode cX7_filter 12 = .ok (.ifCond .ne 5, 3) := by decide +kernel
theorem dX7_filter_15 : decode cX7_filter 15 = .ok (.iconst (-1), 1) := by decide +kernel
theorem dX7_filter_16 : decode cX7_filter 16 = .ok (.ireturn, 1) := by decide +kernel
theorem dX7_filter_17 : decode cX7_filter 17 = .ok (.aload_n 0, 1) := by decide +kernel
theorem dX7_filter_18 : decode cX7_filter 18 = .ok (.getfield 29, 3) := by decide +kernel
theorem dX7_filter_21 : decode cX7_filter 21 = .ok (.istore_n 2, 1) := by decide +kernel
theorem dX7_filter_22 : decode cX7_filter 22 = .ok (.aload_n 0, 1) := by decide +kernel
theorem dX7_filter_23 : decode cX7_filter 23 = .ok (.iload_n 1, 1) := by decide +kernel
theorem dX7_filter_24 : decode cX7_filter 24 = .ok (.putfield 29, 3) := by decide +kernel
theorem dX7_filter_27 : decode cX7_filter 27 = .ok (.iload_n 2, 1) := by decide +kernel
theorem dX7_filter_28 : decode cX7_filter 28 = .ok (.ireturn, 1) := by decide +kernel
theorem dX7_isLoose_0 : decode cX7_isLoose 0 = .ok (.aload_n 0, 1) := by decide +kernel
theorem dX7_isLoose_1 : decode cX7_isLoose 1 = .ok (.iload_n 1, 1) := by decide +kernel
theorem dX7_isLoose_2 : decode cX7_isLoose 2 = .ok (.invokevirtual 82, 3) := by decide +kernel
theorem dX7_isLoose_5 : decode cX7_isLoose 5 = .ok (.ifCond .eq 19, 3) := by decide +kernel
theorem dX7_isLoose_8 : decode cX7_isLoose 8 = .ok (.aload_n 0, 1) := by decide +kernel
theorem dX7_isLoose_9 : decode cX7_isLoose 9 = .ok (.iload_n 1, 1) := by decide +kernel
theorem dX7_isLoose_10 : decode cX7_isLoose 10 = .ok (.invokevirtual 86, 3) := by decide +kernel
theorem dX7_isLoose_13 : decode cX7_isLoose 13 = .ok (.bipush 20, 2) := by decide +kernel
theorem dX7_isLoose_15 : decode cX7_isLoose 15 = .ok (.aload_n 0, 1) := by decide +kernel
theorem dX7_isLoose_16 : decode cX7_isLoose 16 = .ok (.iload_n 1, 1) := by decide +kernel
theorem dX7_isLoose_17 : decode cX7_isLoose 17 = .ok (.invokevirtual 160, 3) := by decide +kernel
theorem dX7_isLoose_20 : decode cX7_isLoose 20 = .ok (.imul, 1) := by decide +kernel
theorem dX7_isLoose_21 : decode cX7_isLoose 21 = .ok (.if_icmp .ge 5, 3) := by decide +kernel
theorem dX7_isLoose_24 : decode cX7_isLoose 24 = .ok (.iconst 0, 1) := by decide +kernel
theorem dX7_isLoose_25 : decode cX7_isLoose 25 = .ok (.ireturn, 1) := by decide +kernel
theorem dX7_isLoose_26 : decode cX7_isLoose 26 = .ok (.iload_n 1, 1) := by decide +kernel
theorem dX7_isLoose_27 : decode cX7_isLoose 27 = .ok (.bipush 8, 2) := by decide +kernel
theorem dX7_isLoose_29 : decode cX7_isLoose 29 = .ok (.irem, 1) := by decide +kernel
theorem dX7_isLoose_30 : decode cX7_isLoose 30 = .ok (.bipush 7, 2) := by decide +kernel
theorem dX7_isLoose_32 : decode cX7_isLoose 32 = .ok (.if_icmp .eq 18, 3) := by decide +kernel
theorem dX7_isLoose_35 : decode cX7_isLoose 35 = .ok (.aload_n 0, 1) := by decide +kernel
theorem dX7_isLoose_36 : decode cX7_isLoose 36 = .ok (.getfield 7, 3) := by decide +kernel
theorem dX7_isLoose_39 : decode cX7_isLoose 39 = .ok (.iconst 0, 1) := by decide +kernel
theorem dX7_isLoose_40 : decode cX7_isLoose 40 = .ok (.iload_n 1, 1) := by decide +kernel
theorem dX7_isLoose_41 : decode cX7_isLoose 41 = .ok (.iadd, 1) := by decide +kernel
theorem dX7_isLoose_42 : decode cX7_isLoose 42 = .ok (.iconst 1, 1) := by decide +kernel
theorem dX7_isLoose_43 : decode cX7_isLoose 43 = .ok (.iadd, 1) := by decide +kernel
theorem dX7_isLoose_44 : decode cX7_isLoose 44 = .ok (.iaload, 1) := by decide +kernel
theorem dX7_isLoose_45 : decode cX7_isLoose 45 = .ok (.bipush (-9), 2) := by decide +kernel
theorem dX7_isLoose_47 : decode cX7_isLoose 47 = .ok (.if_icmp .ne 7, 3) := by decide +kernel
theorem dX7_isLoose_50 : decode cX7_isLoose 50 = .ok (.iconst 1, 1) := by decide +kernel
theorem dX7_isLoose_51 : decode cX7_isLoose 51 = .ok (.goto 4, 3) := by decide +kernel
theorem dX7_isLoose_54 : decode cX7_isLoose 54 = .ok (.iconst 0, 1) := by decide +kernel
theorem dX7_isLoose_55 : decode cX7_isLoose 55 = .ok (.istore_n 2, 1) := by decide +kernel
theorem dX7_isLoose_56 : decode cX7_isLoose 56 = .ok (.iconst 0, 1) := by decide +kernel
theorem dX7_isLoose_57 : decode cX7_isLoose 57 = .ok (.istore_n 3, 1) := by decide +kernel
theorem dX7_isLoose_58 : decode cX7_isLoose 58 = .ok (.iload_n 3, 1) := by decide +kernel
theorem dX7_isLoose_59 : decode cX7_isLoose 59 = .ok (.iconst 4, 1) := by decide +kernel
theorem dX7_isLoose_60 : decode cX7_isLoose 60 = .ok (.if_icmp .ge 102, 3) := by decide +kernel
theorem dX7_isLoose_63 : decode cX7_isLoose 63 = .ok (.iload_n 1, 1) := by decide +kernel
theorem dX7_isLoose_64 : decode cX7_isLoose 64 = .ok (.iload_n 3, 1) := by decide +kernel
theorem dX7_isLoose_65 : decode cX7_isLoose 65 = .ok (.invokestatic 163, 3) := by decide +kernel
theorem dX7_isLoose_68 : decode cX7_isLoose 68 = .ok (.istore 4, 2) := by decide +kernel
theorem dX7_isLoose_70 : decode cX7_isLoose 70 = .ok (.iload 4, 2) := by decide +kernel
theorem dX7_isLoose_72 : decode cX7_isLoose 72 = .ok (.bipush (-9), 2) := by decide +kernel
theorem dX7_isLoose_74 : decode cX7_isLoose 74 = .ok (.if_icmp .eq 82, 3) := by decide +kernel
theorem dX7_isLoose_77 : decode cX7_isLoose 77 = .ok (.aload_n 0, 1) := by decide +kernel
theorem dX7_isLoose_78 : decode cX7_isLoose 78 = .ok (.getfield 7, 3) := by decide +kernel
theorem dX7_isLoose_81 : decode cX7_isLoose 81 = .ok (.iconst 0, 1) := by decide +kernel
theorem dX7_isLoose_82 : decode cX7_isLoose 82 = .ok (.iload 4, 2) := by decide +kernel
theorem dX7_isLoose_84 : decode cX7_isLoose 84 = .ok (.iadd, 1) := by decide +kernel
theorem dX7_isLoose_85 : decode cX7_isLoose 85 = .ok (.iaload, 1) := by decide +kernel
theorem dX7_isLoose_86 : decode cX7_isLoose 86 = .ok (.bipush (-9), 2) := by decide +kernel
theorem dX7_isLoose_88 : decode cX7_isLoose 88 = .ok (.if_icmp .eq 68, 3) := by decide +kernel
theorem dX7_isLoose_91 : decode cX7_isLoose 91 = .ok (.iload_n 2, 1) := by decide +kernel
theorem dX7_isLoose_92 : decode cX7_isLoose 92 = .ok (.aload_n 0, 1) := by decide +kernel
theorem dX7_isLoose_93 : decode cX7_isLoose 93 = .ok (.getfield 7, 3) := by decide +kernel
theorem dX7_isLoose_96 : decode cX7_isLoose 96 = .ok (.bipush 96, 2) := by decide +kernel
theorem dX7_isLoose_98 : decode cX7_isLoose 98 = .ok (.iload 4, 2) := by decide +kernel
theorem dX7_isLoose_100 : decode cX7_isLoose 100 = .ok (.iadd, 1) := by decide +kernel
theorem dX7_isLoose_101 : decode cX7_isLoose 101 = .ok (.iaload, 1) := by decide +kernel
theorem dX7_isLoose_102 : decode cX7_isLoose 102 = .ok (.iconst 1, 1) := by decide +kernel
theorem dX7_isLoose_103 : decode cX7_isLoose 103 = .ok (.if_icmp .eq 46, 3) := by decide +kernel
theorem dX7_isLoose_106 : decode cX7_isLoose 106 = .ok (.aload_n 0, 1) := by decide +kernel
theorem dX7_isLoose_107 : decode cX7_isLoose 107 = .ok (.getfield 7, 3) := by decide +kernel
theorem dX7_isLoose_110 : decode cX7_isLoose 110 = .ok (.sipush 156, 3) := by decide +kernel
theorem dX7_isLoose_113 : decode cX7_isLoose 113 = .ok (.aload_n 0, 1) := by decide +kernel
theorem dX7_isLoose_114 : decode cX7_isLoose 114 = .ok (.getfield 7, 3) := by decide +kernel
theorem dX7_isLoose_117 : decode cX7_isLoose 117 = .ok (.iconst 0, 1) := by decide +kernel
theorem dX7_isLoose_118 : decode cX7_isLoose 118 = .ok (.iload 4, 2) := by decide +kernel
theorem dX7_isLoose_120 : decode cX7_isLoose 120 = .ok (.iadd, 1) := by decide +kernel
theorem dX7_isLoose_121 : decode cX7_isLoose 121 = .ok (.iaload, 1) := by decide +kernel
theorem dX7_isLoose_122 : decode cX7_isLoose 122 = .ok (.iadd, 1) := by decide +kernel
theorem dX7_isLoose_123 : decode cX7_isLoose 123 = .ok (.iaload, 1) := by decide +kernel
theorem dX7_isLoose_124 : decode cX7_isLoose 124 = .ok (.aload_n 0, 1) := by decide +kernel
theorem dX7_isLoose_125 : decode cX7_isLoose 125 = .ok (.getfield 29, 3) := by decide +kernel
theorem dX7_isLoose_128 : decode cX7_isLoose 128 = .ok (.aload_n 0, 1) := by decide +kernel
theorem dX7_isLoose_129 : decode cX7_isLoose 129 = .ok (.getfield 7, 3) := by decide +kernel
theorem dX7_isLoose_132 : decode cX7_isLoose 132 = .ok (.sipush 156, 3) := by decide +kernel
theorem dX7_isLoose_135 : decode cX7_isLoose 135 = .ok (.aload_n 0, 1) := by decide +kernel
theorem dX7_isLoose_136 : decode cX7_isLoose 136 = .ok (.getfield 7, 3) := by decide +kernel
theorem dX7_isLoose_139 : decode cX7_isLoose 139 = .ok (.iconst 0, 1) := by decide +kernel
theorem dX7_isLoose_140 : decode cX7_isLoose 140 = .ok (.iload_n 1, 1) := by decide +kernel
theorem dX7_isLoose_141 : decode cX7_isLoose 141 = .ok (.iadd, 1) := by decide +kernel
theorem dX7_isLoose_142 : decode cX7_isLoose 142 = .ok (.iaload, 1) := by decide +kernel
theorem dX7_isLoose_143 : decode cX7_isLoose 143 = .ok (.iadd, 1) := by decide +kernel
theorem dX7_isLoose_144 : decode cX7_isLoose 144 = .ok (.iaload, 1) := by decide +kernel
theorem dX7_isLoose_145 : decode cX7_isLoose 145 = .ok (.imul, 1) := by decide +kernel
theorem dX7_isLoose_146 : decode cX7_isLoose 146 = .ok (.if_icmp .le 7, 3) := by decide +kernel
theorem dX7_isLoose_149 : decode cX7_isLoose 149 = .ok (.iconst 1, 1) := by decide +kernel
theorem dX7_isLoose_150 : decode cX7_isLoose 150 = .ok (.goto 4, 3) := by decide +kernel
theorem dX7_isLoose_153 : decode cX7_isLoose 153 = .ok (.iconst 0, 1) := by decide +kernel
theorem dX7_isLoose_154 : decode cX7_isLoose 154 = .ok (.ior, 1) := by decide +kernel
theorem dX7_isLoose_155 : decode cX7_isLoose 155 = .ok (.istore_n 2, 1) := by decide +kernel
theorem dX7_isLoose_156 : decode cX7_isLoose 156 = .ok (.iinc 3 1, 3) := by decide +kernel
theorem dX7_isLoose_159 : decode cX7_isLoose 159 = .ok (.goto (-101), 3) := by decide +kernel
theorem dX7_isLoose_162 : decode cX7_isLoose 162 = .ok (.iload_n 2, 1) := by decide +kernel
theorem dX7_isLoose_163 : decode cX7_isLoose 163 = .ok (.ireturn, 1) := by decide +kernel
theorem dX7_days_0 : decode cX7_days 0 = .ok (.iconst 0, 1) := by decide +kernel
theorem dX7_days_1 : decode cX7_days 1 = .ok (.istore_n 1, 1) := by decide +kernel
theorem dX7_days_2 : decode cX7_days 2 = .ok (.iconst 0, 1) := by decide +kernel
theorem dX7_days_3 : decode cX7_days 3 = .ok (.istore_n 2, 1) := by decide +kernel
theorem dX7_days_4 : decode cX7_days 4 = .ok (.iload_n 2, 1) := by decide +kernel
theorem dX7_days_5 : decode cX7_days 5 = .ok (.bipush 48, 2) := by decide +kernel
theorem dX7_days_7 : decode cX7_days 7 = .ok (.if_icmp .ge 28, 3) := by decide +kernel
theorem dX7_days_10 : decode cX7_days 10 = .ok (.aload_n 0, 1) := by decide +kernel
theorem dX7_days_11 : decode cX7_days 11 = .ok (.getfield 63, 3) := by decide +kernel
theorem dX7_days_14 : decode cX7_days 14 = .ok (.iload_n 2, 1) := by decide +kernel
theorem dX7_days_15 : decode cX7_days 15 = .ok (.aload_n 0, 1) := by decide +kernel
theorem dX7_days_16 : decode cX7_days 16 = .ok (.iload_n 2, 1) := by decide +kernel
theorem dX7_days_17 : decode cX7_days 17 = .ok (.invokevirtual 207, 3) := by decide +kernel
theorem dX7_days_20 : decode cX7_days 20 = .ok (.ifCond .eq 7, 3) := by decide +kernel
theorem dX7_days_23 : decode cX7_days 23 = .ok (.iconst 1, 1) := by decide +kernel
theorem dX7_days_24 : decode cX7_days 24 = .ok (.goto 4, 3) := by decide +kernel
theorem dX7_days_27 : decode cX7_days 27 = .ok (.iconst 0, 1) := by decide +kernel
theorem dX7_days_28 : decode cX7_days 28 = .ok (.iastore, 1) := by decide +kernel
theorem dX7_days_29 : decode cX7_days 29 = .ok (.iinc 2 1, 3) := by decide +kernel
theorem dX7_days_32 : decode cX7_days 32 = .ok (.goto (-28), 3) := by decide +kernel
theorem dX7_days_35 : decode cX7_days 35 = .ok (.iconst 0, 1) := by decide +kernel
theorem dX7_days_36 : decode cX7_days 36 = .ok (.istore_n 2, 1) := by decide +kernel
theorem dX7_days_37 : decode cX7_days 37 = .ok (.iload_n 2, 1) := by decide +kernel
theorem dX7_days_38 : decode cX7_days 38 = .ok (.bipush 48, 2) := by decide +kernel
theorem dX7_days_40 : decode cX7_days 40 = .ok (.if_icmp .ge 82, 3) := by decide +kernel
theorem dX7_days_43 : decode cX7_days 43 = .ok (.iload_n 1, 1) := by decide +kernel
theorem dX7_days_44 : decode cX7_days 44 = .ok (.aload_n 0, 1) := by decide +kernel
theorem dX7_days_45 : decode cX7_days 45 = .ok (.getfield 63, 3) := by decide +kernel
theorem dX7_days_48 : decode cX7_days 48 = .ok (.iload_n 2, 1) := by decide +kernel
theorem dX7_days_49 : decode cX7_days 49 = .ok (.iaload, 1) := by decide +kernel
theorem dX7_days_50 : decode cX7_days 50 = .ok (.iadd, 1) := by decide +kernel
theorem dX7_days_51 : decode cX7_days 51 = .ok (.istore_n 1, 1) := by decide +kernel
theorem dX7_days_52 : decode cX7_days 52 = .ok (.iload_n 1, 1) := by decide +kernel
theorem dX7_days_53 : decode cX7_days 53 = .ok (.aload_n 0, 1) := by decide +kernel
theorem dX7_days_54 : decode cX7_days 54 = .ok (.getfield 63, 3) := by decide +kernel
theorem dX7_days_57 : decode cX7_days 57 = .ok (.iload_n 2, 1) := by decide +kernel
theorem dX7_days_58 : decode cX7_days 58 = .ok (.iaload, 1) := by decide +kernel
theorem dX7_days_59 : decode cX7_days 59 = .ok (.iconst 1, 1) := by decide +kernel
theorem dX7_days_60 : decode cX7_days 60 = .ok (.if_icmp .ne 21, 3) := by decide +kernel
theorem dX7_days_63 : decode cX7_days 63 = .ok (.iload_n 2, 1) := by decide +kernel
theorem dX7_days_64 : decode cX7_days 64 = .ok (.bipush 8, 2) := by decide +kernel
theorem dX7_days_66 : decode cX7_days 66 = .ok (.irem, 1) := by decide +kernel
theorem dX7_days_67 : decode cX7_days 67 = .ok (.ifCond .ne 14, 3) := by decide +kernel
theorem dX7_days_70 : decode cX7_days 70 = .ok (.iload_n 1, 1) := by decide +kernel
theorem dX7_days_71 : decode cX7_days 71 = .ok (.bipush 100, 2) := by decide +kernel
theorem dX7_days_73 : decode cX7_days 73 = .ok (.if_icmp .ge 8, 3) := by decide +kernel
theorem dX7_days_76 : decode cX7_days 76 = .ok (.bipush 100, 2) := by decide +kernel
theorem dX7_days_78 : decode cX7_days 78 = .ok (.goto 4, 3) := by decide +kernel
theorem dX7_days_81 : decode cX7_days 81 = .ok (.iconst 0, 1) := by decide +kernel
theorem dX7_days_82 : decode cX7_days 82 = .ok (.iadd, 1) := by decide +kernel
theorem dX7_days_83 : decode cX7_days 83 = .ok (.istore_n 1, 1) := by decide +kernel
theorem dX7_days_84 : decode cX7_days 84 = .ok (.aload_n 0, 1) := by decide +kernel
theorem dX7_days_85 : decode cX7_days 85 = .ok (.getfield 7, 3) := by decide +kernel
theorem dX7_days_88 : decode cX7_days 88 = .ok (.bipush 96, 2) := by decide +kernel
theorem dX7_days_90 : decode cX7_days 90 = .ok (.iload_n 2, 1) := by decide +kernel
theorem dX7_days_91 : decode cX7_days 91 = .ok (.iadd, 1) := by decide +kernel
theorem dX7_days_92 : decode cX7_days 92 = .ok (.aload_n 0, 1) := by decide +kernel
theorem dX7_days_93 : decode cX7_days 93 = .ok (.getfield 63, 3) := by decide +kernel
theorem dX7_days_96 : decode cX7_days 96 = .ok (.iload_n 2, 1) := by decide +kernel
theorem dX7_days_97 : decode cX7_days 97 = .ok (.iaload, 1) := by decide +kernel
theorem dX7_days_98 : decode cX7_days 98 = .ok (.iconst 1, 1) := by decide +kernel
theorem dX7_days_99 : decode cX7_days 99 = .ok (.if_icmp .ne 7, 3) := by decide +kernel
theorem dX7_days_102 : decode cX7_days 102 = .ok (.iconst 1, 1) := by decide +kernel
theorem dX7_days_103 : decode cX7_days 103 = .ok (.goto 12, 3) := by decide +kernel
theorem dX7_days_106 : decode cX7_days 106 = .ok (.aload_n 0, 1) := by decide +kernel
theorem dX7_days_107 : decode cX7_days 107 = .ok (.getfield 7, 3) := by decide +kernel
theorem dX7_days_110 : decode cX7_days 110 = .ok (.bipush 96, 2) := by decide +kernel
theorem dX7_days_112 : decode cX7_days 112 = .ok (.iload_n 2, 1) := by decide +kernel
theorem dX7_days_113 : decode cX7_days 113 = .ok (.iadd, 1) := by decide +kernel
theorem dX7_days_114 : decode cX7_days 114 = .ok (.iaload, 1) := by decide +kernel
theorem dX7_days_115 : decode cX7_days 115 = .ok (.iastore, 1) := by decide +kernel
theorem dX7_days_116 : decode cX7_days 116 = .ok (.iinc 2 1, 3) := by decide +kernel
theorem dX7_days_119 : decode cX7_days 119 = .ok (.goto (-82), 3) := by decide +kernel
theorem dX7_days_122 : decode cX7_days 122 = .ok (.iload_n 1, 1) := by decide +kernel
theorem dX7_days_123 : decode cX7_days 123 = .ok (.ireturn, 1) := by decide +kernel
theorem dX7_day_0 : decode cX7_day 0 = .ok (.aload_n 0, 1) := by decide +kernel
theorem dX7_day_1 : decode cX7_day 1 = .ok (.iconst 0, 1) := by decide +kernel
theorem dX7_day_2 : decode cX7_day 2 = .ok (.putfield 75, 3) := by decide +kernel
theorem dX7_day_5 : decode cX7_day 5 = .ok (.aload_n 0, 1) := by decide +kernel
theorem dX7_day_6 : decode cX7_day 6 = .ok (.invokevirtual 210, 3) := by decide +kernel
theorem dX7_day_9 : decode cX7_day 9 = .ok (.bipush 100, 2) := by decide +kernel
theorem dX7_day_11 : decode cX7_day 11 = .ok (.irem, 1) := by decide +kernel
theorem dX7_day_12 : decode cX7_day 12 = .ok (.ireturn, 1) := by decide +kernel
theorem dX7_saves_0 : decode cX7_saves 0 = .ok (.iconst 0, 1) := by decide +kernel
theorem dX7_saves_1 : decode cX7_saves 1 = .ok (.istore_n 2, 1) := by decide +kernel
theorem dX7_saves_2 : decode cX7_saves 2 = .ok (.iload_n 2, 1) := by decide +kernel
theorem dX7_saves_3 : decode cX7_saves 3 = .ok (.sipush 163, 3) := by decide +kernel
theorem dX7_saves_6 : decode cX7_saves 6 = .ok (.if_icmp .ge 40, 3) := by decide +kernel
theorem dX7_saves_9 : decode cX7_saves 9 = .ok (.iload_n 1, 1) := by decide +kernel
theorem dX7_saves_10 : decode cX7_saves 10 = .ok (.ifCond .eq 18, 3) := by decide +kernel
theorem dX7_saves_13 : decode cX7_saves 13 = .ok (.aload_n 0, 1) := by decide +kernel
theorem dX7_saves_14 : decode cX7_saves 14 = .ok (.getfield 7, 3) := by decide +kernel
theorem dX7_saves_17 : decode cX7_saves 17 = .ok (.iload_n 2, 1) := by decide +kernel
theorem dX7_saves_18 : decode cX7_saves 18 = .ok (.aload_n 0, 1) := by decide +kernel
theorem dX7_saves_19 : decode cX7_saves 19 = .ok (.getfield 20, 3) := by decide +kernel
theorem dX7_saves_22 : decode cX7_saves 22 = .ok (.iload_n 2, 1) := by decide +kernel
theorem dX7_saves_23 : decode cX7_saves 23 = .ok (.iaload, 1) := by decide +kernel
theorem dX7_saves_24 : decode cX7_saves 24 = .ok (.iastore, 1) := by decide +kernel
theorem dX7_saves_25 : decode cX7_saves 25 = .ok (.goto 15, 3) := by decide +kernel
theorem dX7_saves_28 : decode cX7_saves 28 = .ok (.aload_n 0, 1) := by decide +kernel
theorem dX7_saves_29 : decode cX7_saves 29 = .ok (.getfield 20, 3) := by decide +kernel
theorem dX7_saves_32 : decode cX7_saves 32 = .ok (.iload_n 2, 1) := by decide +kernel
theorem dX7_saves_33 : decode cX7_saves 33 = .ok (.aload_n 0, 1) := by decide +kernel
theorem dX7_saves_34 : decode cX7_saves 34 = .ok (.getfield 7, 3) := by decide +kernel
theorem dX7_saves_37 : decode cX7_saves 37 = .ok (.iload_n 2, 1) := by decide +kernel
theorem dX7_saves_38 : decode cX7_saves 38 = .ok (.iaload, 1) := by decide +kernel
theorem dX7_saves_39 : decode cX7_saves 39 = .ok (.iastore, 1) := by decide +kernel
theorem dX7_saves_40 : decode cX7_saves 40 = .ok (.iinc 2 1, 3) := by decide +kernel
theorem dX7_saves_43 : decode cX7_saves 43 = .ok (.goto (-41), 3) := by decide +kernel
theorem dX7_saves_46 : decode cX7_saves 46 = .ok (.return_, 1) := by decide +kernel
theorem dX7_breaks_0 : decode cX7_breaks 0 = .ok (.iconst 1, 1) := by decide +kernel
theorem dX7_breaks_1 : decode cX7_breaks 1 = .ok (.istore_n 1, 1) := by decide +kernel
theorem dX7_breaks_2 : decode cX7_breaks 2 = .ok (.aload_n 0, 1) := by decide +kernel
theorem dX7_breaks_3 : decode cX7_breaks 3 = .ok (.invokevirtual 210, 3) := by decide +kernel
theorem dX7_breaks_6 : decode cX7_breaks 6 = .ok (.istore_n 2, 1) := by decide +kernel
theorem dX7_breaks_7 : decode cX7_breaks 7 = .ok (.iload_n 2, 1) := by decide +kernel
theorem dX7_breaks_8 : decode cX7_breaks 8 = .ok (.ifCond .le 20, 3) := by decide +kernel
theorem dX7_breaks_11 : decode cX7_breaks 11 = .ok (.iload_n 2, 1) := by decide +kernel
theorem dX7_breaks_12 : decode cX7_breaks 12 = .ok (.bipush 100, 2) := by decide +kernel
theorem dX7_breaks_14 : decode cX7_breaks 14 = .ok (.if_icmp .ge 14, 3) := by decide +kernel
theorem dX7_breaks_17 : decode cX7_breaks 17 = .ok (.iinc 1 1, 3) := by decide +kernel
theorem dX7_breaks_20 : decode cX7_breaks 20 = .ok (.aload_n 0, 1) := by decide +kernel
theorem dX7_breaks_21 : decode cX7_breaks 21 = .ok (.invokevirtual 210, 3) := by decide +kernel
theorem dX7_breaks_24 : decode cX7_breaks 24 = .ok (.istore_n 2, 1) := by decide +kernel
theorem dX7_breaks_25 : decode cX7_breaks 25 = .ok (.goto (-18), 3) := by decide +kernel
theorem dX7_breaks_28 : decode cX7_breaks 28 = .ok (.iload_n 2, 1) := by decide +kernel
theorem dX7_breaks_29 : decode cX7_breaks 29 = .ok (.ifCond .ne 8, 3) := by decide +kernel
theorem dX7_breaks_32 : decode cX7_breaks 32 = .ok (.bipush (-9), 2) := by decide +kernel
theorem dX7_breaks_34 : decode cX7_breaks 34 = .ok (.goto 4, 3) := by decide +kernel
theorem dX7_breaks_37 : decode cX7_breaks 37 = .ok (.iload_n 1, 1) := by decide +kernel
theorem dX7_breaks_38 : decode cX7_breaks 38 = .ok (.ireturn, 1) := by decide +kernel
theorem dX7_breach_0 : decode cX7_breach 0 = .ok (.aload_n 0, 1) := by decide +kernel
theorem dX7_breach_1 : decode cX7_breach 1 = .ok (.iconst 0, 1) := by decide +kernel
theorem dX7_breach_2 : decode cX7_breach 2 = .ok (.putfield 75, 3) := by decide +kernel
theorem dX7_breach_5 : decode cX7_breach 5 = .ok (.aload_n 0, 1) := by decide +kernel
theorem dX7_breach_6 : decode cX7_breach 6 = .ok (.iconst 0, 1) := by decide +kernel
theorem dX7_breach_7 : decode cX7_breach 7 = .ok (.invokevirtual 213, 3) := by decide +kernel
theorem dX7_breach_10 : decode cX7_breach 10 = .ok (.aload_n 0, 1) := by decide +kernel
theorem dX7_breach_11 : decode cX7_breach 11 = .ok (.invokevirtual 217, 3) := by decide +kernel
theorem dX7_breach_14 : decode cX7_breach 14 = .ok (.istore_n 1, 1) := by decide +kernel
theorem dX7_breach_15 : decode cX7_breach 15 = .ok (.aload_n 0, 1) := by decide +kernel
theorem dX7_breach_16 : decode cX7_breach 16 = .ok (.iconst 1, 1) := by decide +kernel
theorem dX7_breach_17 : decode cX7_breach 17 = .ok (.invokevirtual 213, 3) := by decide +kernel
theorem dX7_breach_20 : decode cX7_breach 20 = .ok (.iload_n 1, 1) := by decide +kernel
theorem dX7_breach_21 : decode cX7_breach 21 = .ok (.ireturn, 1) := by decide +kernel
theorem dX7_fills_0 : decode cX7_fills 0 = .ok (.aload_n 0, 1) := by decide +kernel
theorem dX7_fills_1 : decode cX7_fills 1 = .ok (.getfield 7, 3) := by decide +kernel
theorem dX7_fills_4 : decode cX7_fills 4 = .ok (.sipush 162, 3) := by decide +kernel
theorem dX7_fills_7 : decode cX7_fills 7 = .ok (.iload_n 1, 1) := by decide +kernel
theorem dX7_fills_8 : decode cX7_fills 8 = .ok (.iastore, 1) := by decide +kernel
theorem dX7_fills_9 : decode cX7_fills 9 = .ok (.aload_n 0, 1) := by decide +kernel
theorem dX7_fills_10 : decode cX7_fills 10 = .ok (.invokevirtual 182, 3) := by decide +kernel
theorem dX7_fills_13 : decode cX7_fills 13 = .ok (.pop, 1) := by decide +kernel
theorem dX7_fills_14 : decode cX7_fills 14 = .ok (.iconst 0, 1) := by decide +kernel
theorem dX7_fills_15 : decode cX7_fills 15 = .ok (.istore_n 2, 1) := by decide +kernel
theorem dX7_fills_16 : decode cX7_fills 16 = .ok (.iload_n 2, 1) := by decide +kernel
theorem dX7_fills_17 : decode cX7_fills 17 = .ok (.bipush 40, 2) := by decide +kernel
theorem dX7_fills_19 : decode cX7_fills 19 = .ok (.if_icmp .ge 13, 3) := by decide +kernel
theorem dX7_fills_22 : decode cX7_fills 22 = .ok (.aload_n 0, 1) := by decide +kernel
theorem dX7_fills_23 : decode cX7_fills 23 = .ok (.invokevirtual 176, 3) := by decide +kernel
theorem dX7_fills_26 : decode cX7_fills 26 = .ok (.iinc 2 1, 3) := by decide +kernel
theorem dX7_fills_29 : decode cX7_fills 29 = .ok (.goto (-13), 3) := by decide +kernel
theorem dX7_fills_32 : decode cX7_fills 32 = .ok (.return_, 1) := by decide +kernel
theorem dX7_highest_0 : decode cX7_highest 0 = .ok (.aload_n 0, 1) := by decide +kernel
theorem dX7_highest_1 : decode cX7_highest 1 = .ok (.iconst 0, 1) := by decide +kernel
theorem dX7_highest_2 : decode cX7_highest 2 = .ok (.putfield 75, 3) := by decide +kernel
theorem dX7_highest_5 : decode cX7_highest 5 = .ok (.aload_n 0, 1) := by decide +kernel
theorem dX7_highest_6 : decode cX7_highest 6 = .ok (.iconst 0, 1) := by decide +kernel
theorem dX7_highest_7 : decode cX7_highest 7 = .ok (.invokevirtual 213, 3) := by decide +kernel
theorem dX7_highest_10 : decode cX7_highest 10 = .ok (.bipush (-9), 2) := by decide +kernel
theorem dX7_highest_12 : decode cX7_highest 12 = .ok (.istore_n 1, 1) := by decide +kernel
theorem dX7_highest_13 : decode cX7_highest 13 = .ok (.iconst 0, 1) := by decide +kernel
theorem dX7_highest_14 : decode cX7_highest 14 = .ok (.istore_n 2, 1) := by decide +kernel
theorem dX7_highest_15 : decode cX7_highest 15 = .ok (.iload_n 2, 1) := by decide +kernel
theorem dX7_highest_16 : decode cX7_highest 16 = .ok (.bipush 7, 2) := by decide +kernel
theorem dX7_highest_18 : decode cX7_highest 18 = .ok (.if_icmp .ge 34, 3) := by decide +kernel
theorem dX7_highest_21 : decode cX7_highest 21 = .ok (.aload_n 0, 1) := by decide +kernel
theorem dX7_highest_22 : decode cX7_highest 22 = .ok (.iload_n 2, 1) := by decide +kernel
theorem dX7_highest_23 : decode cX7_highest 23 = .ok (.invokevirtual 220, 3) := by decide +kernel
theorem dX7_highest_26 : decode cX7_highest 26 = .ok (.aload_n 0, 1) := by decide +kernel
theorem dX7_highest_27 : decode cX7_highest 27 = .ok (.invokevirtual 217, 3) := by decide +kernel
theorem dX7_highest_30 : decode cX7_highest 30 = .ok (.bipush (-9), 2) := by decide +kernel
theorem dX7_highest_32 : decode cX7_highest 32 = .ok (.if_icmp .ne 7, 3) := by decide +kernel
theorem dX7_highest_35 : decode cX7_highest 35 = .ok (.iload_n 2, 1) := by decide +kernel
theorem dX7_highest_36 : decode cX7_highest 36 = .ok (.goto 4, 3) := by decide +kernel
theorem dX7_highest_39 : decode cX7_highest 39 = .ok (.iload_n 1, 1) := by decide +kernel
theorem dX7_highest_40 : decode cX7_highest 40 = .ok (.istore_n 1, 1) := by decide +kernel
theorem dX7_highest_41 : decode cX7_highest 41 = .ok (.aload_n 0, 1) := by decide +kernel
theorem dX7_highest_42 : decode cX7_highest 42 = .ok (.iconst 1, 1) := by decide +kernel
theorem dX7_highest_43 : decode cX7_highest 43 = .ok (.invokevirtual 213, 3) := by decide +kernel
theorem dX7_highest_46 : decode cX7_highest 46 = .ok (.iinc 2 1, 3) := by decide +kernel
theorem dX7_highest_49 : decode cX7_highest 49 = .ok (.goto (-34), 3) := by decide +kernel
theorem dX7_highest_52 : decode cX7_highest 52 = .ok (.iload_n 1, 1) := by decide +kernel
theorem dX7_highest_53 : decode cX7_highest 53 = .ok (.ireturn, 1) := by decide +kernel
theorem dX7_pool_0 : decode cX7_pool 0 = .ok (.aload_n 0, 1) := by decide +kernel
theorem dX7_pool_1 : decode cX7_pool 1 = .ok (.iconst 0, 1) := by decide +kernel
theorem dX7_pool_2 : decode cX7_pool 2 = .ok (.putfield 75, 3) := by decide +kernel
theorem dX7_pool_5 : decode cX7_pool 5 = .ok (.iload_n 1, 1) := by decide +kernel
theorem dX7_pool_6 : decode cX7_pool 6 = .ok (.iconst 0, 1) := by decide +kernel
theorem dX7_pool_7 : decode cX7_pool 7 = .ok (.iconst 5, 1) := by decide +kernel
theorem dX7_pool_8 : decode cX7_pool 8 = .ok (.invokestatic 78, 3) := by decide +kernel
theorem dX7_pool_11 : decode cX7_pool 11 = .ok (.ifCond .eq 14, 3) := by decide +kernel
theorem dX7_pool_14 : decode cX7_pool 14 = .ok (.iload_n 2, 1) := by decide +kernel
theorem dX7_pool_15 : decode cX7_pool 15 = .ok (.iconst 0, 1) := by decide +kernel
theorem dX7_pool_16 : decode cX7_pool 16 = .ok (.sipush 9999, 3) := by decide +kernel
theorem dX7_pool_19 : decode cX7_pool 19 = .ok (.invokestatic 78, 3) := by decide +kernel
theorem dX7_pool_22 : decode cX7_pool 22 = .ok (.ifCond .ne 5, 3) := by decide +kernel
theorem dX7_pool_25 : decode cX7_pool 25 = .ok (.iconst (-1), 1) := by decide +kernel
theorem dX7_pool_26 : decode cX7_pool 26 = .ok (.ireturn, 1) := by decide +kernel
theorem dX7_pool_27 : decode cX7_pool 27 = .ok (.aload_n 0, 1) := by decide +kernel
theorem dX7_pool_28 : decode cX7_pool 28 = .ok (.getfield 45, 3) := by decide +kernel
theorem dX7_pool_31 : decode cX7_pool 31 = .ok (.iload_n 1, 1) := by decide +kernel
theorem dX7_pool_32 : decode cX7_pool 32 = .ok (.iaload, 1) := by decide +kernel
theorem dX7_pool_33 : decode cX7_pool 33 = .ok (.istore_n 3, 1) := by decide +kernel
theorem dX7_pool_34 : decode cX7_pool 34 = .ok (.aload_n 0, 1) := by decide +kernel
theorem dX7_pool_35 : decode cX7_pool 35 = .ok (.getfield 45, 3) := by decide +kernel
theorem dX7_pool_38 : decode cX7_pool 38 = .ok (.iload_n 1, 1) := by decide +kernel
theorem dX7_pool_39 : decode cX7_pool 39 = .ok (.iload_n 2, 1) := by decide +kernel
theorem dX7_pool_40 : decode cX7_pool 40 = .ok (.iastore, 1) := by decide +kernel
theorem dX7_pool_41 : decode cX7_pool 41 = .ok (.iload_n 3, 1) := by decide +kernel
theorem dX7_pool_42 : decode cX7_pool 42 = .ok (.ireturn, 1) := by decide +kernel
theorem dX7_flood_0 : decode cX7_flood 0 = .ok (.aload_n 0, 1) := by decide +kernel
theorem dX7_flood_1 : decode cX7_flood 1 = .ok (.iconst 0, 1) := by decide +kernel
theorem dX7_flood_2 : decode cX7_flood 2 = .ok (.putfield 75, 3) := by decide +kernel
theorem dX7_flood_5 : decode cX7_flood 5 = .ok (.iload_n 1, 1) := by decide +kernel
theorem dX7_flood_6 : decode cX7_flood 6 = .ok (.iconst 0, 1) := by decide +kernel
theorem dX7_flood_7 : decode cX7_flood 7 = .ok (.bipush 7, 2) := by decide +kernel
theorem dX7_flood_9 : decode cX7_flood 9 = .ok (.invokestatic 78, 3) := by decide +kernel
theorem dX7_flood_12 : decode cX7_flood 12 = .ok (.ifCond .eq 14, 3) := by decide +kernel
theorem dX7_flood_15 : decode cX7_flood 15 = .ok (.iload_n 2, 1) := by decide +kernel
theorem dX7_flood_16 : decode cX7_flood 16 = .ok (.iconst 0, 1) := by decide +kernel
theorem dX7_flood_17 : decode cX7_flood 17 = .ok (.sipush 999, 3) := by decide +kernel
theorem dX7_flood_20 : decode cX7_flood 20 = .ok (.invokestatic 78, 3) := by decide +kernel
theorem dX7_flood_23 : decode cX7_flood 23 = .ok (.ifCond .ne 5, 3) := by decide +kernel
theorem dX7_flood_26 : decode cX7_flood 26 = .ok (.iconst (-1), 1) := by decide +kernel
theorem dX7_flood_27 : decode cX7_flood 27 = .ok (.ireturn, 1) := by decide +kernel
theorem dX7_flood_28 : decode cX7_flood 28 = .ok (.aload_n 0, 1) := by decide +kernel
theorem dX7_flood_29 : decode cX7_flood 29 = .ok (.getfield 48, 3) := by decide +kernel
theorem dX7_flood_32 : decode cX7_flood 32 = .ok (.iload_n 1, 1) := by decide +kernel
theorem dX7_flood_33 : decode cX7_flood 33 = .ok (.iaload, 1) := by decide +kernel
theorem dX7_flood_34 : decode cX7_flood 34 = .ok (.bipush 12, 2) := by decide +kernel
theorem dX7_flood_36 : decode cX7_flood 36 = .ok (.if_icmp .ne 6, 3) := by decide +kernel
theorem dX7_flood_39 : decode cX7_flood 39 = .ok (.bipush (-3), 2) := by decide +kernel
theorem dX7_flood_41 : decode cX7_flood 41 = .ok (.ireturn, 1) := by decide +kernel
theorem dX7_flood_42 : decode cX7_flood 42 = .ok (.aload_n 0, 1) := by decide +kernel
theorem dX7_flood_43 : decode cX7_flood 43 = .ok (.getfield 51, 3) := by decide +kernel
theorem dX7_flood_46 : decode cX7_flood 46 = .ok (.bipush 12, 2) := by decide +kernel
theorem dX7_flood_48 : decode cX7_flood 48 = .ok (.iload_n 1, 1) := by decide +kernel
theorem dX7_flood_49 : decode cX7_flood 49 = .ok (.imul, 1) := by decide +kernel
theorem dX7_flood_50 : decode cX7_flood 50 = .ok (.aload_n 0, 1) := by decide +kernel
theorem dX7_flood_51 : decode cX7_flood 51 = .ok (.getfield 48, 3) := by decide +kernel
theorem dX7_flood_54 : decode cX7_flood 54 = .ok (.iload_n 1, 1) := by decide +kernel
theorem dX7_flood_55 : decode cX7_flood 55 = .ok (.iaload, 1) := by decide +kernel
theorem dX7_flood_56 : decode cX7_flood 56 = .ok (.iadd, 1) := by decide +kernel
theorem dX7_flood_57 : decode cX7_flood 57 = .ok (.iload_n 2, 1) := by decide +kernel
theorem dX7_flood_58 : decode cX7_flood 58 = .ok (.iastore, 1) := by decide +kernel
theorem dX7_flood_59 : decode cX7_flood 59 = .ok (.aload_n 0, 1) := by decide +kernel
theorem dX7_flood_60 : decode cX7_flood 60 = .ok (.getfield 48, 3) := by decide +kernel
theorem dX7_flood_63 : decode cX7_flood 63 = .ok (.iload_n 1, 1) := by decide +kernel
theorem dX7_flood_64 : decode cX7_flood 64 = .ok (.dup2, 1) := by decide +kernel
theorem dX7_flood_65 : decode cX7_flood 65 = .ok (.iaload, 1) := by decide +kernel
theorem dX7_flood_66 : decode cX7_flood 66 = .ok (.iconst 1, 1) := by decide +kernel
theorem dX7_flood_67 : decode cX7_flood 67 = .ok (.iadd, 1) := by decide +kernel
theorem dX7_flood_68 : decode cX7_flood 68 = .ok (.iastore, 1) := by decide +kernel
theorem dX7_flood_69 : decode cX7_flood 69 = .ok (.aload_n 0, 1) := by decide +kernel
theorem dX7_flood_70 : decode cX7_flood 70 = .ok (.getfield 48, 3) := by decide +kernel
theorem dX7_flood_73 : decode cX7_flood 73 = .ok (.iload_n 1, 1) := by decide +kernel
theorem dX7_flood_74 : decode cX7_flood 74 = .ok (.iaload, 1) := by decide +kernel
theorem dX7_flood_75 : decode cX7_flood 75 = .ok (.ireturn, 1) := by decide +kernel
theorem dX7_ebb_0 : decode cX7_ebb 0 = .ok (.aload_n 0, 1) := by decide +kernel
theorem dX7_ebb_1 : decode cX7_ebb 1 = .ok (.iconst 0, 1) := by decide +kernel
theorem dX7_ebb_2 : decode cX7_ebb 2 = .ok (.putfield 75, 3) := by decide +kernel
theorem dX7_ebb_5 : decode cX7_ebb 5 = .ok (.iload_n 1, 1) := by decide +kernel
theorem dX7_ebb_6 : decode cX7_ebb 6 = .ok (.iconst 0, 1) := by decide +kernel
theorem dX7_ebb_7 : decode cX7_ebb 7 = .ok (.bipush 7, 2) := by decide +kernel
theorem dX7_ebb_9 : decode cX7_ebb 9 = .ok (.invokestatic 78, 3) := by decide +kernel
theorem dX7_ebb_12 : decode cX7_ebb 12 = .ok (.ifCond .ne 5, 3) := by decide +kernel
theorem dX7_ebb_15 : decode cX7_ebb 15 = .ok (.iconst (-1), 1) := by decide +kernel
theorem dX7_ebb_16 : decode cX7_ebb 16 = .ok (.ireturn, 1) := by decide +kernel
theorem dX7_ebb_17 : decode cX7_ebb 17 = .ok (.aload_n 0, 1) := by decide +kernel
theorem dX7_ebb_18 : decode cX7_ebb 18 = .ok (.getfield 48, 3) := by decide +kernel
theorem dX7_ebb_21 : decode cX7_ebb 21 = .ok (.iload_n 1, 1) := by decide +kernel
theorem dX7_ebb_22 : decode cX7_ebb 22 = .ok (.iaload, 1) := by decide +kernel
theorem dX7_ebb_23 : decode cX7_ebb 23 = .ok (.istore_n 2, 1) := by decide +kernel
theorem dX7_ebb_24 : decode cX7_ebb 24 = .ok (.aload_n 0, 1) := by decide +kernel
theorem dX7_ebb_25 : decode cX7_ebb 25 = .ok (.getfield 48, 3) := by decide +kernel
theorem dX7_ebb_28 : decode cX7_ebb 28 = .ok (.iload_n 1, 1) := by decide +kernel
theorem dX7_ebb_29 : decode cX7_ebb 29 = .ok (.iconst 0, 1) := by decide +kernel
theorem dX7_ebb_30 : decode cX7_ebb 30 = .ok (.iastore, 1) := by decide +kernel
theorem dX7_ebb_31 : decode cX7_ebb 31 = .ok (.iload_n 2, 1) := by decide +kernel
theorem dX7_ebb_32 : decode cX7_ebb 32 = .ok (.ireturn, 1) := by decide +kernel
theorem dX7_routes_0 : decode cX7_routes 0 = .ok (.aload_n 0, 1) := by decide +kernel
theorem dX7_routes_1 : decode cX7_routes 1 = .ok (.getfield 45, 3) := by decide +kernel
theorem dX7_routes_4 : decode cX7_routes 4 = .ok (.iconst 5, 1) := by decide +kernel
theorem dX7_routes_5 : decode cX7_routes 5 = .ok (.iaload, 1) := by decide +kernel
theorem dX7_routes_6 : decode cX7_routes 6 = .ok (.istore_n 3, 1) := by decide +kernel
theorem dX7_routes_7 : decode cX7_routes 7 = .ok (.aload_n 0, 1) := by decide +kernel
theorem dX7_routes_8 : decode cX7_routes 8 = .ok (.iconst 0, 1) := by decide +kernel
theorem dX7_routes_9 : decode cX7_routes 9 = .ok (.putfield 223, 3) := by decide +kernel
theorem dX7_routes_12 : decode cX7_routes 12 = .ok (.aload_n 0, 1) := by decide +kernel
theorem dX7_routes_13 : decode cX7_routes 13 = .ok (.iconst 0, 1) := by decide +kernel
theorem dX7_routes_14 : decode cX7_routes 14 = .ok (.putfield 226, 3) := by decide +kernel
theorem dX7_routes_17 : decode cX7_routes 17 = .ok (.aload_n 0, 1) := by decide +kernel
theorem dX7_routes_18 : decode cX7_routes 18 = .ok (.iconst 0, 1) := by decide +kernel
theorem dX7_routes_19 : decode cX7_routes 19 = .ok (.putfield 229, 3) := by decide +kernel
theorem dX7_routes_22 : decode cX7_routes 22 = .ok (.iconst 0, 1) := by decide +kernel
theorem dX7_routes_23 : decode cX7_routes 23 = .ok (.istore 4, 2) := by decide +kernel
theorem dX7_routes_25 : decode cX7_routes 25 = .ok (.iload 4, 2) := by decide +kernel
theorem dX7_routes_27 : decode cX7_routes 27 = .ok (.aload_n 0, 1) := by decide +kernel
theorem dX7_routes_28 : decode cX7_routes 28 = .ok (.getfield 48, 3) := by decide +kernel
theorem dX7_routes_31 : decode cX7_routes 31 = .ok (.iload_n 1, 1) := by decide +kernel
theorem dX7_routes_32 : decode cX7_routes 32 = .ok (.iaload, 1) := by decide +kernel
theorem dX7_routes_33 : decode cX7_routes 33 = .ok (.if_icmp .ge 183, 3) := by decide +kernel
theorem dX7_routes_36 : decode cX7_routes 36 = .ok (.iload_n 3, 1) := by decide +kernel
theorem dX7_routes_37 : decode cX7_routes 37 = .ok (.aload_n 0, 1) := by decide +kernel
theorem dX7_routes_38 : decode cX7_routes 38 = .ok (.getfield 51, 3) := by decide +kernel
theorem dX7_routes_41 : decode cX7_routes 41 = .ok (.bipush 12, 2) := by decide +kernel
theorem dX7_routes_43 : decode cX7_routes 43 = .ok (.iload_n 1, 1) := by decide +kernel
theorem dX7_routes_44 : decode cX7_routes 44 = .ok (.imul, 1) := by decide +kernel
theorem dX7_routes_45 : decode cX7_routes 45 = .ok (.iload 4, 2) := by decide +kernel
theorem dX7_routes_47 : decode cX7_routes 47 = .ok (.iadd, 1) := by decide +kernel
theorem dX7_routes_48 : decode cX7_routes 48 = .ok (.iaload, 1) := by decide +kernel
theorem dX7_routes_49 : decode cX7_routes 49 = .ok (.iadd, 1) := by decide +kernel
theorem dX7_routes_50 : decode cX7_routes 50 = .ok (.istore_n 3, 1) := by decide +kernel
theorem dX7_routes_51 : decode cX7_routes 51 = .ok (.iload_n 3, 1) := by decide +kernel
theorem dX7_routes_52 : decode cX7_routes 52 = .ok (.iload_n 2, 1) := by decide +kernel
theorem dX7_routes_53 : decode cX7_routes 53 = .ok (.if_icmp .ge 7, 3) := by decide +kernel
theorem dX7_routes_56 : decode cX7_routes 56 = .ok (.iconst 0, 1) := by decide +kernel
theorem dX7_routes_57 : decode cX7_routes 57 = .ok (.goto 23, 3) := by decide +kernel
theorem dX7_routes_60 : decode cX7_routes 60 = .ok (.aload_n 0, 1) := by decide +kernel
theorem dX7_routes_61 : decode cX7_routes 61 = .ok (.getfield 45, 3) := by decide +kernel
theorem dX7_routes_64 : decode cX7_routes 64 = .ok (.iconst 0, 1) := by decide +kernel
theorem dX7_routes_65 : decode cX7_routes 65 = .ok (.iaload, 1) := by decide +kernel
theorem dX7_routes_66 : decode cX7_routes 66 = .ok (.iload_n 3, 1) := by decide +kernel
theorem dX7_routes_67 : decode cX7_routes 67 = .ok (.if_icmp .ge 12, 3) := by decide +kernel
theorem dX7_routes_70 : decode cX7_routes 70 = .ok (.aload_n 0, 1) := by decide +kernel
theorem dX7_routes_71 : decode cX7_routes 71 = .ok (.getfield 45, 3) := by decide +kernel
theorem dX7_routes_74 : decode cX7_routes 74 = .ok (.iconst 0, 1) := by decide +kernel
theorem dX7_routes_75 : decode cX7_routes 75 = .ok (.iaload, 1) := by decide +kernel
theorem dX7_routes_76 : decode cX7_routes 76 = .ok (.goto 4, 3) := by decide +kernel
theorem dX7_routes_79 : decode cX7_routes 79 = .ok (.iload_n 3, 1) := by decide +kernel
theorem dX7_routes_80 : decode cX7_routes 80 = .ok (.istore 5, 2) := by decide +kernel
theorem dX7_routes_82 : decode cX7_routes 82 = .ok (.iload_n 3, 1) := by decide +kernel
theorem dX7_routes_83 : decode cX7_routes 83 = .ok (.iload 5, 2) := by decide +kernel
theorem dX7_routes_85 : decode cX7_routes 85 = .ok (.isub, 1) := by decide +kernel
theorem dX7_routes_86 : decode cX7_routes 86 = .ok (.istore_n 3, 1) := by decide +kernel
theorem dX7_routes_87 : decode cX7_routes 87 = .ok (.iload_n 3, 1) := by decide +kernel
theorem dX7_routes_88 : decode cX7_routes 88 = .ok (.aload_n 0, 1) := by decide +kernel
theorem dX7_routes_89 : decode cX7_routes 89 = .ok (.getfield 45, 3) := by decide +kernel
theorem dX7_routes_92 : decode cX7_routes 92 = .ok (.iconst 1, 1) := by decide +kernel
theorem dX7_routes_93 : decode cX7_routes 93 = .ok (.iaload, 1) := by decide +kernel
theorem dX7_routes_94 : decode cX7_routes 94 = .ok (.if_icmp .le 18, 3) := by decide +kernel
theorem dX7_routes_97 : decode cX7_routes 97 = .ok (.iload_n 3, 1) := by decide +kernel
theorem dX7_routes_98 : decode cX7_routes 98 = .ok (.aload_n 0, 1) := by decide +kernel
theorem dX7_routes_99 : decode cX7_routes 99 = .ok (.getfield 45, 3) := by decide +kernel
theorem dX7_routes_102 : decode cX7_routes 102 = .ok (.iconst 1, 1) := by decide +kernel
theorem dX7_routes_103 : decode cX7_routes 103 = .ok (.iaload, 1) := by decide +kernel
theorem dX7_routes_104 : decode cX7_routes 104 = .ok (.isub, 1) := by decide +kernel
theorem dX7_routes_105 : decode cX7_routes 105 = .ok (.iconst 1, 1) := by decide +kernel
theorem dX7_routes_106 : decode cX7_routes 106 = .ok (.iadd, 1) := by decide +kernel
theorem dX7_routes_107 : decode cX7_routes 107 = .ok (.iconst 2, 1) := by decide +kernel
theorem dX7_routes_108 : decode cX7_routes 108 = .ok (.idiv, 1) := by decide +kernel
theorem dX7_routes_109 : decode cX7_routes 109 = .ok (.goto 4, 3) := by decide +kernel
theorem dX7_routes_112 : decode cX7_routes 112 = .ok (.iconst 0, 1) := by decide +kernel
theorem dX7_routes_113 : decode cX7_routes 113 = .ok (.istore 6, 2) := by decide +kernel
theorem dX7_routes_115 : decode cX7_routes 115 = .ok (.iload 6, 2) := by decide +kernel
theorem dX7_routes_117 : decode cX7_routes 117 = .ok (.aload_n 0, 1) := by decide +kernel
theorem dX7_routes_118 : decode cX7_routes 118 = .ok (.getfield 45, 3) := by decide +kernel
theorem dX7_routes_121 : decode cX7_routes 121 = .ok (.iconst 2, 1) := by decide +kernel
theorem dX7_routes_122 : decode cX7_routes 122 = .ok (.iaload, 1) := by decide +kernel
theorem dX7_routes_123 : decode cX7_routes 123 = .ok (.if_icmp .ge 8, 3) := by decide +kernel
theorem dX7_routes_126 : decode cX7_routes 126 = .ok (.iload 6, 2) := by decide +kernel
theorem dX7_routes_128 : decode cX7_routes 128 = .ok (.goto 9, 3) := by decide +kernel
theorem dX7_routes_131 : decode cX7_routes 131 = .ok (.aload_n 0, 1) := by decide +kernel
theorem dX7_routes_132 : decode cX7_routes 132 = .ok (.getfield 45, 3) := by decide +kernel
theorem dX7_routes_135 : decode cX7_routes 135 = .ok (.iconst 2, 1) := by decide +kernel
theorem dX7_routes_136 : decode cX7_routes 136 = .ok (.iaload, 1) := by decide +kernel
theorem dX7_routes_137 : decode cX7_routes 137 = .ok (.istore 7, 2) := by decide +kernel
theorem dX7_routes_139 : decode cX7_routes 139 = .ok (.iload_n 3, 1) := by decide +kernel
theorem dX7_routes_140 : decode cX7_routes 140 = .ok (.iload 7, 2) := by decide +kernel
theorem dX7_routes_142 : decode cX7_routes 142 = .ok (.isub, 1) := by decide +kernel
theorem dX7_routes_143 : decode cX7_routes 143 = .ok (.istore_n 3, 1) := by decide +kernel
theorem dX7_routes_144 : decode cX7_routes 144 = .ok (.aload_n 0, 1) := by decide +kernel
theorem dX7_routes_145 : decode cX7_routes 145 = .ok (.dup, 1) := by decide +kernel
theorem dX7_routes_146 : decode cX7_routes 146 = .ok (.getfield 223, 3) := by decide +kernel
theorem dX7_routes_149 : decode cX7_routes 149 = .ok (.iload_n 3, 1) := by decide +kernel
theorem dX7_routes_150 : decode cX7_routes 150 = .ok (.aload_n 0, 1) := by decide +kernel
theorem dX7_routes_151 : decode cX7_routes 151 = .ok (.getfield 45, 3) := by decide +kernel
theorem dX7_routes_154 : decode cX7_routes 154 = .ok (.iconst 3, 1) := by decide +kernel
theorem dX7_routes_155 : decode cX7_routes 155 = .ok (.iaload, 1) := by decide +kernel
theorem dX7_routes_156 : decode cX7_routes 156 = .ok (.if_icmp .le 7, 3) := by decide +kernel
theorem dX7_routes_159 : decode cX7_routes 159 = .ok (.iconst 1, 1) := by decide +kernel
theorem dX7_routes_160 : decode cX7_routes 160 = .ok (.goto 4, 3) := by decide +kernel
theorem dX7_routes_163 : decode cX7_routes 163 = .ok (.iconst 0, 1) := by decide +kernel
theorem dX7_routes_164 : decode cX7_routes 164 = .ok (.iadd, 1) := by decide +kernel
theorem dX7_routes_165 : decode cX7_routes 165 = .ok (.putfield 223, 3) := by decide +kernel
theorem dX7_routes_168 : decode cX7_routes 168 = .ok (.aload_n 0, 1) := by decide +kernel
theorem dX7_routes_169 : decode cX7_routes 169 = .ok (.iload 5, 2) := by decide +kernel
theorem dX7_routes_171 : decode cX7_routes 171 = .ok (.iload 7, 2) := by decide +kernel
theorem dX7_routes_173 : decode cX7_routes 173 = .ok (.iadd, 1) := by decide +kernel
theorem dX7_routes_174 : decode cX7_routes 174 = .ok (.aload_n 0, 1) := by decide +kernel
theorem dX7_routes_175 : decode cX7_routes 175 = .ok (.getfield 226, 3) := by decide +kernel
theorem dX7_routes_178 : decode cX7_routes 178 = .ok (.if_icmp .le 11, 3) := by decide +kernel
theorem dX7_routes_181 : decode cX7_routes 181 = .ok (.iload 5, 2) := by decide +kernel
theorem dX7_routes_183 : decode cX7_routes 183 = .ok (.iload 7, 2) := by decide +kernel
theorem dX7_routes_185 : decode cX7_routes 185 = .ok (.iadd, 1) := by decide +kernel
theorem dX7_routes_186 : decode cX7_routes 186 = .ok (.goto 7, 3) := by decide +kernel
theorem dX7_routes_189 : decode cX7_routes 189 = .ok (.aload_n 0, 1) := by decide +kernel
theorem dX7_routes_190 : decode cX7_routes 190 = .ok (.getfield 226, 3) := by decide +kernel
theorem dX7_routes_193 : decode cX7_routes 193 = .ok (.putfield 226, 3) := by decide +kernel
theorem dX7_routes_196 : decode cX7_routes 196 = .ok (.aload_n 0, 1) := by decide +kernel
theorem dX7_routes_197 : decode cX7_routes 197 = .ok (.dup, 1) := by decide +kernel
theorem dX7_routes_198 : decode cX7_routes 198 = .ok (.getfield 229, 3) := by decide +kernel
theorem dX7_routes_201 : decode cX7_routes 201 = .ok (.iload 5, 2) := by decide +kernel
theorem dX7_routes_203 : decode cX7_routes 203 = .ok (.iload 7, 2) := by decide +kernel
theorem dX7_routes_205 : decode cX7_routes 205 = .ok (.iadd, 1) := by decide +kernel
theorem dX7_routes_206 : decode cX7_routes 206 = .ok (.iadd, 1) := by decide +kernel
theorem dX7_routes_207 : decode cX7_routes 207 = .ok (.putfield 229, 3) := by decide +kernel
theorem dX7_routes_210 : decode cX7_routes 210 = .ok (.iinc 4 1, 3) := by decide +kernel
theorem dX7_routes_213 : decode cX7_routes 213 = .ok (.goto (-188), 3) := by decide +kernel
theorem dX7_routes_216 : decode cX7_routes 216 = .ok (.aload_n 0, 1) := by decide +kernel
theorem dX7_routes_217 : decode cX7_routes 217 = .ok (.iload_n 3, 1) := by decide +kernel
theorem dX7_routes_218 : decode cX7_routes 218 = .ok (.putfield 232, 3) := by decide +kernel
theorem dX7_routes_221 : decode cX7_routes 221 = .ok (.return_, 1) := by decide +kernel
theorem dX7_isSafe_0 : decode cX7_isSafe 0 = .ok (.aload_n 0, 1) := by decide +kernel
theorem dX7_isSafe_1 : decode cX7_isSafe 1 = .ok (.iload_n 1, 1) := by decide +kernel
theorem dX7_isSafe_2 : decode cX7_isSafe 2 = .ok (.iload_n 2, 1) := by decide +kernel
theorem dX7_isSafe_3 : decode cX7_isSafe 3 = .ok (.invokevirtual 235, 3) := by decide +kernel
theorem dX7_isSafe_6 : decode cX7_isSafe 6 = .ok (.aload_n 0, 1) := by decide +kernel
theorem dX7_isSafe_7 : decode cX7_isSafe 7 = .ok (.getfield 223, 3) := by decide +kernel
theorem dX7_isSafe_10 : decode cX7_isSafe 10 = .ok (.ifCond .ne 20, 3) := by decide +kernel
theorem dX7_isSafe_13 : decode cX7_isSafe 13 = .ok (.aload_n 0, 1) := by decide +kernel
theorem dX7_isSafe_14 : decode cX7_isSafe 14 = .ok (.getfield 226, 3) := by decide +kernel
theorem dX7_isSafe_17 : decode cX7_isSafe 17 = .ok (.aload_n 0, 1) := by decide +kernel
theorem dX7_isSafe_18 : decode cX7_isSafe 18 = .ok (.getfield 45, 3) := by decide +kernel
theorem dX7_isSafe_21 : decode cX7_isSafe 21 = .ok (.iconst 4, 1) := by decide +kernel
theorem dX7_isSafe_22 : decode cX7_isSafe 22 = .ok (.iaload, 1) := by decide +kernel
theorem dX7_isSafe_23 : decode cX7_isSafe 23 = .ok (.if_icmp .gt 7, 3) := by decide +kernel
theorem dX7_isSafe_26 : decode cX7_isSafe 26 = .ok (.iconst 1, 1) := by decide +kernel
theorem dX7_isSafe_27 : decode cX7_isSafe 27 = .ok (.goto 4, 3) := by decide +kernel
theorem dX7_isSafe_30 : decode cX7_isSafe 30 = .ok (.iconst 0, 1) := by decide +kernel
theorem dX7_isSafe_31 : decode cX7_isSafe 31 = .ok (.ireturn, 1) := by decide +kernel
theorem dX7_route_0 : decode cX7_route 0 = .ok (.aload_n 0, 1) := by decide +kernel
theorem dX7_route_1 : decode cX7_route 1 = .ok (.iconst 0, 1) := by decide +kernel
theorem dX7_route_2 : decode cX7_route 2 = .ok (.putfield 75, 3) := by decide +kernel
theorem dX7_route_5 : decode cX7_route 5 = .ok (.iload_n 1, 1) := by decide +kernel
theorem dX7_route_6 : decode cX7_route 6 = .ok (.iconst 0, 1) := by decide +kernel
theorem dX7_route_7 : decode cX7_route 7 = .ok (.bipush 7, 2) := by decide +kernel
theorem dX7_route_9 : decode cX7_route 9 = .ok (.invokestatic 78, 3) := by decide +kernel
theorem dX7_route_12 : decode cX7_route 12 = .ok (.ifCond .eq 23, 3) := by decide +kernel
theorem dX7_route_15 : decode cX7_route 15 = .ok (.iload_n 2, 1) := by decide +kernel
theorem dX7_route_16 : decode cX7_route 16 = .ok (.iconst 0, 1) := by decide +kernel
theorem dX7_route_17 : decode cX7_route 17 = .ok (.sipush 9999, 3) := by decide +kernel
theorem dX7_route_20 : decode cX7_route 20 = .ok (.invokestatic 78, 3) := by decide +kernel
theorem dX7_route_23 : decode cX7_route 23 = .ok (.ifCond .eq 12, 3) := by decide +kernel
theorem dX7_route_26 : decode cX7_route 26 = .ok (.iload_n 3, 1) := by decide +kernel
theorem dX7_route_27 : decode cX7_route 27 = .ok (.iconst 0, 1) := by decide +kernel
theorem dX7_route_28 : decode cX7_route 28 = .ok (.iconst 4, 1) := by decide +kernel
theorem dX7_route_29 : decode cX7_route 29 = .ok (.invokestatic 78, 3) := by decide +kernel
theorem dX7_route_32 : decode cX7_route 32 = .ok (.ifCond .ne 5, 3) := by decide +kernel
theorem dX7_route_35 : decode cX7_route 35 = .ok (.iconst (-1), 1) := by decide +kernel
theorem dX7_route_36 : decode cX7_route 36 = .ok (.ireturn, 1) := by decide +kernel
theorem dX7_route_37 : decode cX7_route 37 = .ok (.aload_n 0, 1) := by decide +kernel
theorem dX7_route_38 : decode cX7_route 38 = .ok (.iload_n 1, 1) := by decide +kernel
theorem dX7_route_39 : decode cX7_route 39 = .ok (.iload_n 2, 1) := by decide +kernel
theorem dX7_route_40 : decode cX7_route 40 = .ok (.invokevirtual 239, 3) := by decide +kernel
theorem dX7_route_43 : decode cX7_route 43 = .ok (.istore 4, 2) := by decide +kernel
theorem dX7_route_45 : decode cX7_route 45 = .ok (.iload_n 3, 1) := by decide +kernel
theorem dX7_route_46 : decode cX7_route 46 = .ok (.ifCond .ne 10, 3) := by decide +kernel
theorem dX7_route_49 : decode cX7_route 49 = .ok (.aload_n 0, 1) := by decide +kernel
theorem dX7_route_50 : decode cX7_route 50 = .ok (.getfield 232, 3) := by decide +kernel
theorem dX7_route_53 : decode cX7_route 53 = .ok (.goto 49, 3) := by decide +kernel
theorem dX7_route_56 : decode cX7_route 56 = .ok (.iload_n 3, 1) := by decide +kernel
theorem dX7_route_57 : decode cX7_route 57 = .ok (.iconst 1, 1) := by decide +kernel
theorem dX7_route_58 : decode cX7_route 58 = .ok (.if_icmp .ne 10, 3) := by decide +kernel
theorem dX7_route_61 : decode cX7_route 61 = .ok (.aload_n 0, 1) := by decide +kernel
theorem dX7_route_62 : decode cX7_route 62 = .ok (.getfield 223, 3) := by decide +kernel
theorem dX7_route_65 : decode cX7_route 65 = .ok (.goto 37, 3) := by decide +kernel
theorem dX7_route_68 : decode cX7_route 68 = .ok (.iload_n 3, 1) := by decide +kernel
theorem dX7_route_69 : decode cX7_route 69 = .ok (.iconst 2, 1) := by decide +kernel
theorem dX7_route_70 : decode cX7_route 70 = .ok (.if_icmp .ne 10, 3) := by decide +kernel
theorem dX7_route_73 : decode cX7_route 73 = .ok (.aload_n 0, 1) := by decide +kernel
theorem dX7_route_74 : decode cX7_route 74 = .ok (.getfield 226, 3) := by decide +kernel
theorem dX7_route_77 : decode cX7_route 77 = .ok (.goto 25, 3) := by decide +kernel
theorem dX7_route_80 : decode cX7_route 80 = .ok (.iload_n 3, 1) := by decide +kernel
theorem dX7_route_81 : decode cX7_route 81 = .ok (.iconst 3, 1) := by decide +kernel
theorem dX7_route_82 : decode cX7_route 82 = .ok (.if_icmp .ne 16, 3) := by decide +kernel
theorem dX7_route_85 : decode cX7_route 85 = .ok (.iload 4, 2) := by decide +kernel
theorem dX7_route_87 : decode cX7_route 87 = .ok (.ifCond .eq 7, 3) := by decide +kernel
theorem dX7_route_90 : decode cX7_route 90 = .ok (.iconst 1, 1) := by decide +kernel
theorem dX7_route_91 : decode cX7_route 91 = .ok (.goto 11, 3) := by decide +kernel
theorem dX7_route_94 : decode cX7_route 94 = .ok (.iconst 0, 1) := by decide +kernel
theorem dX7_route_95 : decode cX7_route 95 = .ok (.goto 7, 3) := by decide +kernel
theorem dX7_route_98 : decode cX7_route 98 = .ok (.aload_n 0, 1) := by decide +kernel
theorem dX7_route_99 : decode cX7_route 99 = .ok (.getfield 229, 3) := by decide +kernel
theorem dX7_route_102 : decode cX7_route 102 = .ok (.ireturn, 1) := by decide +kernel
theorem dX7_best_0 : decode cX7_best 0 = .ok (.aload_n 0, 1) := by decide +kernel
theorem dX7_best_1 : decode cX7_best 1 = .ok (.iconst 0, 1) := by decide +kernel
theorem dX7_best_2 : decode cX7_best 2 = .ok (.putfield 75, 3) := by decide +kernel
theorem dX7_best_5 : decode cX7_best 5 = .ok (.iload_n 1, 1) := by decide +kernel
theorem dX7_best_6 : decode cX7_best 6 = .ok (.iconst 0, 1) := by decide +kernel
theorem dX7_best_7 : decode cX7_best 7 = .ok (.iconst 1, 1) := by decide +kernel
theorem dX7_best_8 : decode cX7_best 8 = .ok (.invokestatic 78, 3) := by decide +kernel
theorem dX7_best_11 : decode cX7_best 11 = .ok (.ifCond .ne 5, 3) := by decide +kernel
theorem dX7_best_14 : decode cX7_best 14 = .ok (.iconst (-1), 1) := by decide +kernel
theorem dX7_best_15 : decode cX7_best 15 = .ok (.ireturn, 1) := by decide +kernel
theorem dX7_best_16 : decode cX7_best 16 = .ok (.iconst 0, 1) := by decide +kernel
theorem dX7_best_17 : decode cX7_best 17 = .ok (.istore_n 2, 1) := by decide +kernel
theorem dX7_best_18 : decode cX7_best 18 = .ok (.iconst (-1), 1) := by decide +kernel
theorem dX7_best_19 : decode cX7_best 19 = .ok (.istore_n 3, 1) := by decide +kernel
theorem dX7_best_20 : decode cX7_best 20 = .ok (.iconst 0, 1) := by decide +kernel
theorem dX7_best_21 : decode cX7_best 21 = .ok (.istore 4, 2) := by decide +kernel
theorem dX7_best_23 : decode cX7_best 23 = .ok (.iload 4, 2) := by decide +kernel
theorem dX7_best_25 : decode cX7_best 25 = .ok (.sipush 2000, 3) := by decide +kernel
theorem dX7_best_28 : decode cX7_best 28 = .ok (.if_icmp .gt 75, 3) := by decide +kernel
theorem dX7_best_31 : decode cX7_best 31 = .ok (.iconst 0, 1) := by decide +kernel
theorem dX7_best_32 : decode cX7_best 32 = .ok (.istore 5, 2) := by decide +kernel
theorem dX7_best_34 : decode cX7_best 34 = .ok (.iconst 0, 1) := by decide +kernel
theorem dX7_best_35 : decode cX7_best 35 = .ok (.istore 6, 2) := by decide +kernel
theorem dX7_best_37 : decode cX7_best 37 = .ok (.iload 6, 2) := by decide +kernel
theorem dX7_best_39 : decode cX7_best 39 = .ok (.bipush 8, 2) := by decide +kernel
theorem dX7_best_41 : decode cX7_best 41 = .ok (.if_icmp .ge 30, 3) := by decide +kernel
theorem dX7_best_44 : decode cX7_best 44 = .ok (.iload 5, 2) := by decide +kernel
theorem dX7_best_46 : decode cX7_best 46 = .ok (.aload_n 0, 1) := by decide +kernel
theorem dX7_best_47 : decode cX7_best 47 = .ok (.iload 6, 2) := by decide +kernel
theorem dX7_best_49 : decode cX7_best 49 = .ok (.iload 4, 2) := by decide +kernel
theorem dX7_best_51 : decode cX7_best 51 = .ok (.invokevirtual 239, 3) := by decide +kernel
theorem dX7_best_54 : decode cX7_best 54 = .ok (.ifCond .eq 7, 3) := by decide +kernel
theorem dX7_best_57 : decode cX7_best 57 = .ok (.iconst 1, 1) := by decide +kernel
theorem dX7_best_58 : decode cX7_best 58 = .ok (.goto 4, 3) := by decide +kernel
theorem dX7_best_61 : decode cX7_best 61 = .ok (.iconst 0, 1) := by decide +kernel
theorem dX7_best_62 : decode cX7_best 62 = .ok (.iadd, 1) := by decide +kernel
theorem dX7_best_63 : decode cX7_best 63 = .ok (.istore 5, 2) := by decide +kernel
theorem dX7_best_65 : decode cX7_best 65 = .ok (.iinc 6 1, 3) := by decide +kernel
theorem dX7_best_68 : decode cX7_best 68 = .ok (.goto (-31), 3) := by decide +kernel
theorem dX7_best_71 : decode cX7_best 71 = .ok (.iload 5, 2) := by decide +kernel
theorem dX7_best_73 : decode cX7_best 73 = .ok (.iload_n 3, 1) := by decide +kernel
theorem dX7_best_74 : decode cX7_best 74 = .ok (.if_icmp .lt 8, 3) := by decide +kernel
theorem dX7_best_77 : decode cX7_best 77 = .ok (.iload 4, 2) := by decide +kernel
theorem dX7_best_79 : decode cX7_best 79 = .ok (.goto 4, 3) := by decide +kernel
theorem dX7_best_82 : decode cX7_best 82 = .ok (.iload_n 2, 1) := by decide +kernel
theorem dX7_best_83 : decode cX7_best 83 = .ok (.istore_n 2, 1) := by decide +kernel
theorem dX7_best_84 : decode cX7_best 84 = .ok (.iload 5, 2) := by decide +kernel
theorem dX7_best_86 : decode cX7_best 86 = .ok (.iload_n 3, 1) := by decide +kernel
theorem dX7_best_87 : decode cX7_best 87 = .ok (.if_icmp .lt 8, 3) := by decide +kernel
theorem dX7_best_90 : decode cX7_best 90 = .ok (.iload 5, 2) := by decide +kernel
theorem dX7_best_92 : decode cX7_best 92 = .ok (.goto 4, 3) := by decide +kernel
theorem dX7_best_95 : decode cX7_best 95 = .ok (.iload_n 3, 1) := by decide +kernel
theorem dX7_best_96 : decode cX7_best 96 = .ok (.istore_n 3, 1) := by decide +kernel
theorem dX7_best_97 : decode cX7_best 97 = .ok (.iinc 4 100, 3) := by decide +kernel
theorem dX7_best_100 : decode cX7_best 100 = .ok (.goto (-77), 3) := by decide +kernel
theorem dX7_best_103 : decode cX7_best 103 = .ok (.iload_n 1, 1) := by decide +kernel
theorem dX7_best_104 : decode cX7_best 104 = .ok (.ifCond .ne 7, 3) := by decide +kernel
theorem dX7_best_107 : decode cX7_best 107 = .ok (.iload_n 2, 1) := by decide +kernel
theorem dX7_best_108 : decode cX7_best 108 = .ok (.goto 4, 3) := by decide +kernel
theorem dX7_best_111 : decode cX7_best 111 = .ok (.iload_n 3, 1) := by decide +kernel
theorem dX7_best_112 : decode cX7_best 112 = .ok (.ireturn, 1) := by decide +kernel
theorem dX7_gauge_0 : decode cX7_gauge 0 = .ok (.aload_n 0, 1) := by decide +kernel
theorem dX7_gauge_1 : decode cX7_gauge 1 = .ok (.iconst 0, 1) := by decide +kernel
theorem dX7_gauge_2 : decode cX7_gauge 2 = .ok (.putfield 75, 3) := by decide +kernel
theorem dX7_gauge_5 : decode cX7_gauge 5 = .ok (.iload_n 1, 1) := by decide +kernel
theorem dX7_gauge_6 : decode cX7_gauge 6 = .ok (.iload_n 2, 1) := by decide +kernel
theorem dX7_gauge_7 : decode cX7_gauge 7 = .ok (.invokestatic 144, 3) := by decide +kernel
theorem dX7_gauge_10 : decode cX7_gauge 10 = .ok (.ifCond .eq 14, 3) := by decide +kernel
theorem dX7_gauge_13 : decode cX7_gauge 13 = .ok (.iload_n 3, 1) := by decide +kernel
theorem dX7_gauge_14 : decode cX7_gauge 14 = .ok (.iconst 0, 1) := by decide +kernel
theorem dX7_gauge_15 : decode cX7_gauge 15 = .ok (.sipush 9999, 3) := by decide +kernel
theorem dX7_gauge_18 : decode cX7_gauge 18 = .ok (.invokestatic 78, 3) := by decide +kernel
theorem dX7_gauge_21 : decode cX7_gauge 21 = .ok (.ifCond .ne 5, 3) := by decide +kernel
theorem dX7_gauge_24 : decode cX7_gauge 24 = .ok (.iconst (-1), 1) := by decide +kernel
theorem dX7_gauge_25 : decode cX7_gauge 25 = .ok (.ireturn, 1) := by decide +kernel
theorem dX7_gauge_26 : decode cX7_gauge 26 = .ok (.aload_n 0, 1) := by decide +kernel
theorem dX7_gauge_27 : decode cX7_gauge 27 = .ok (.getfield 242, 3) := by decide +kernel
theorem dX7_gauge_30 : decode cX7_gauge 30 = .ok (.bipush 8, 2) := by decide +kernel
theorem dX7_gauge_32 : decode cX7_gauge 32 = .ok (.if_icmp .ne 6, 3) := by decide +kernel
theorem dX7_gauge_35 : decode cX7_gauge 35 = .ok (.bipush (-3), 2) := by decide +kernel
theorem dX7_gauge_37 : decode cX7_gauge 37 = .ok (.ireturn, 1) := by decide +kernel
theorem dX7_gauge_38 : decode cX7_gauge 38 = .ok (.aload_n 0, 1) := by decide +kernel
theorem dX7_gauge_39 : decode cX7_gauge 39 = .ok (.getfield 54, 3) := by decide +kernel
theorem dX7_gauge_42 : decode cX7_gauge 42 = .ok (.iconst 2, 1) := by decide +kernel
theorem dX7_gauge_43 : decode cX7_gauge 43 = .ok (.aload_n 0, 1) := by decide +kernel
theorem dX7_gauge_44 : decode cX7_gauge 44 = .ok (.getfield 242, 3) := by decide +kernel
theorem dX7_gauge_47 : decode cX7_gauge 47 = .ok (.imul, 1) := by decide +kernel
theorem dX7_gauge_48 : decode cX7_gauge 48 = .ok (.bipush 8, 2) := by decide +kernel
theorem dX7_gauge_50 : decode cX7_gauge 50 = .ok (.iload_n 2, 1) := by decide +kernel
theorem dX7_gauge_51 : decode cX7_gauge 51 = .ok (.imul, 1) := by decide +kernel
theorem dX7_gauge_52 : decode cX7_gauge 52 = .ok (.iload_n 1, 1) := by decide +kernel
theorem dX7_gauge_53 : decode cX7_gauge 53 = .ok (.iadd, 1) := by decide +kernel
theorem dX7_gauge_54 : decode cX7_gauge 54 = .ok (.iastore, 1) := by decide +kernel
theorem dX7_gauge_55 : decode cX7_gauge 55 = .ok (.aload_n 0, 1) := by decide +kernel
theorem dX7_gauge_56 : decode cX7_gauge 56 = .ok (.getfield 54, 3) := by decide +kernel
theorem dX7_gauge_59 : decode cX7_gauge 59 = .ok (.iconst 2, 1) := by decide +kernel
theorem dX7_gauge_60 : decode cX7_gauge 60 = .ok (.aload_n 0, 1) := by decide +kernel
theorem dX7_gauge_61 : decode cX7_gauge 61 = .ok (.getfield 242, 3) := by decide +kernel
theorem dX7_gauge_64 : decode cX7_gauge 64 = .ok (.imul, 1) := by decide +kernel
theorem dX7_gauge_65 : decode cX7_gauge 65 = .ok (.iconst 1, 1) := by decide +kernel
theorem dX7_gauge_66 : decode cX7_gauge 66 = .ok (.iadd, 1) := by decide +kernel
theorem dX7_gauge_67 : decode cX7_gauge 67 = .ok (.iload_n 3, 1) := by decide +kernel
theorem dX7_gauge_68 : decode cX7_gauge 68 = .ok (.iastore, 1) := by decide +kernel
theorem dX7_gauge_69 : decode cX7_gauge 69 = .ok (.aload_n 0, 1) := by decide +kernel
theorem dX7_gauge_70 : decode cX7_gauge 70 = .ok (.dup, 1) := by decide +kernel
theorem dX7_gauge_71 : decode cX7_gauge 71 = .ok (.getfield 242, 3) := by decide +kernel
theorem dX7_gauge_74 : decode cX7_gauge 74 = .ok (.iconst 1, 1) := by decide +kernel
theorem dX7_gauge_75 : decode cX7_gauge 75 = .ok (.iadd, 1) := by decide +kernel
theorem dX7_gauge_76 : decode cX7_gauge 76 = .ok (.putfield 242, 3) := by decide +kernel
theorem dX7_gauge_79 : decode cX7_gauge 79 = .ok (.aload_n 0, 1) := by decide +kernel
theorem dX7_gauge_80 : decode cX7_gauge 80 = .ok (.getfield 242, 3) := by decide +kernel
theorem dX7_gauge_83 : decode cX7_gauge 83 = .ok (.iconst 1, 1) := by decide +kernel
theorem dX7_gauge_84 : decode cX7_gauge 84 = .ok (.isub, 1) := by decide +kernel
theorem dX7_gauge_85 : decode cX7_gauge 85 = .ok (.ireturn, 1) := by decide +kernel
theorem dX7_cause_0 : decode cX7_cause 0 = .ok (.aload_n 0, 1) := by decide +kernel
theorem dX7_cause_1 : decode cX7_cause 1 = .ok (.iconst 0, 1) := by decide +kernel
theorem dX7_cause_2 : decode cX7_cause 2 = .ok (.putfield 75, 3) := by decide +kernel
theorem dX7_cause_5 : decode cX7_cause 5 = .ok (.iload_n 1, 1) := by decide +kernel
theorem dX7_cause_6 : decode cX7_cause 6 = .ok (.iconst 0, 1) := by decide +kernel
theorem dX7_cause_7 : decode cX7_cause 7 = .ok (.iconst 5, 1) := by decide +kernel
theorem dX7_cause_8 : decode cX7_cause 8 = .ok (.invokestatic 78, 3) := by decide +kernel
theorem dX7_cause_11 : decode cX7_cause 11 = .ok (.ifCond .eq 13, 3) := by decide +kernel
theorem dX7_cause_14 : decode cX7_cause 14 = .ok (.iload_n 2, 1) := by decide +kernel
theorem dX7_cause_15 : decode cX7_cause 15 = .ok (.iconst 1, 1) := by decide +kernel
theorem dX7_cause_16 : decode cX7_cause 16 = .ok (.bipush 99, 2) := by decide +kernel
theorem dX7_cause_18 : decode cX7_cause 18 = .ok (.invokestatic 78, 3) := by decide +kernel
theorem dX7_cause_21 : decode cX7_cause 21 = .ok (.ifCond .ne 5, 3) := by decide +kernel
theorem dX7_cause_24 : decode cX7_cause 24 = .ok (.iconst (-1), 1) := by decide +kernel
theorem dX7_cause_25 : decode cX7_cause 25 = .ok (.ireturn, 1) := by decide +kernel
theorem dX7_cause_26 : decode cX7_cause 26 = .ok (.aload_n 0, 1) := by decide +kernel
theorem dX7_cause_27 : decode cX7_cause 27 = .ok (.getfield 245, 3) := by decide +kernel
theorem dX7_cause_30 : decode cX7_cause 30 = .ok (.bipush 8, 2) := by decide +kernel
theorem dX7_cause_32 : decode cX7_cause 32 = .ok (.if_icmp .ne 6, 3) := by decide +kernel
theorem dX7_cause_35 : decode cX7_cause 35 = .ok (.bipush (-3), 2) := by decide +kernel
theorem dX7_cause_37 : decode cX7_cause 37 = .ok (.ireturn, 1) := by decide +kernel
theorem dX7_cause_38 : decode cX7_cause 38 = .ok (.aload_n 0, 1) := by decide +kernel
theorem dX7_cause_39 : decode cX7_cause 39 = .ok (.getfield 57, 3) := by decide +kernel
theorem dX7_cause_42 : decode cX7_cause 42 = .ok (.iconst 2, 1) := by decide +kernel
theorem dX7_cause_43 : decode cX7_cause 43 = .ok (.aload_n 0, 1) := by decide +kernel
theorem dX7_cause_44 : decode cX7_cause 44 = .ok (.getfield 245, 3) := by decide +kernel
theorem dX7_cause_47 : decode cX7_cause 47 = .ok (.imul, 1) := by decide +kernel
theorem dX7_cause_48 : decode cX7_cause 48 = .ok (.iload_n 1, 1) := by decide +kernel
theorem dX7_cause_49 : decode cX7_cause 49 = .ok (.iastore, 1) := by decide +kernel
theorem dX7_cause_50 : decode cX7_cause 50 = .ok (.aload_n 0, 1) := by decide +kernel
theorem dX7_cause_51 : decode cX7_cause 51 = .ok (.getfield 57, 3) := by decide +kernel
theorem dX7_cause_54 : decode cX7_cause 54 = .ok (.iconst 2, 1) := by decide +kernel
theorem dX7_cause_55 : decode cX7_cause 55 = .ok (.aload_n 0, 1) := by decide +kernel
theorem dX7_cause_56 : decode cX7_cause 56 = .ok (.getfield 245, 3) := by decide +kernel
theorem dX7_cause_59 : decode cX7_cause 59 = .ok (.imul, 1) := by decide +kernel
theorem dX7_cause_60 : decode cX7_cause 60 = .ok (.iconst 1, 1) := by decide +kernel
theorem dX7_cause_61 : decode cX7_cause 61 = .ok (.iadd, 1) := by decide +kernel
theorem dX7_cause_62 : decode cX7_cause 62 = .ok (.iload_n 2, 1) := by decide +kernel
theorem dX7_cause_63 : decode cX7_cause 63 = .ok (.iastore, 1) := by decide +kernel
theorem dX7_cause_64 : decode cX7_cause 64 = .ok (.aload_n 0, 1) := by decide +kernel
theorem dX7_cause_65 : decode cX7_cause 65 = .ok (.dup, 1) := by decide +kernel
theorem dX7_cause_66 : decode cX7_cause 66 = .ok (.getfield 245, 3) := by decide +kernel
theorem dX7_cause_69 : decode cX7_cause 69 = .ok (.iconst 1, 1) := by decide +kernel
theorem dX7_cause_70 : decode cX7_cause 70 = .ok (.iadd, 1) := by decide +kernel
theorem dX7_cause_71 : decode cX7_cause 71 = .ok (.putfield 245, 3) := by decide +kernel
theorem dX7_cause_74 : decode cX7_cause 74 = .ok (.aload_n 0, 1) := by decide +kernel
theorem dX7_cause_75 : decode cX7_cause 75 = .ok (.getfield 245, 3) := by decide +kernel
theorem dX7_cause_78 : decode cX7_cause 78 = .ok (.iconst 1, 1) := by decide +kernel
theorem dX7_cause_79 : decode cX7_cause 79 = .ok (.isub, 1) := by decide +kernel
theorem dX7_cause_80 : decode cX7_cause 80 = .ok (.ireturn, 1) := by decide +kernel
theorem dX7_slack_0 : decode cX7_slack 0 = .ok (.aload_n 0, 1) := by decide +kernel
theorem dX7_slack_1 : decode cX7_slack 1 = .ok (.iconst 0, 1) := by decide +kernel
theorem dX7_slack_2 : decode cX7_slack 2 = .ok (.putfield 75, 3) := by decide +kernel
theorem dX7_slack_5 : decode cX7_slack 5 = .ok (.iload_n 1, 1) := by decide +kernel
theorem dX7_slack_6 : decode cX7_slack 6 = .ok (.iconst 0, 1) := by decide +kernel
theorem dX7_slack_7 : decode cX7_slack 7 = .ok (.sipush 999, 3) := by decide +kernel
theorem dX7_slack_10 : decode cX7_slack 10 = .ok (.invokestatic 78, 3) := by decide +kernel
theorem dX7_slack_13 : decode cX7_slack 13 = .ok (.ifCond .ne 5, 3) := by decide +kernel
theorem dX7_slack_16 : decode cX7_slack 16 = .ok (.iconst (-1), 1) := by decide +kernel
theorem dX7_slack_17 : decode cX7_slack 17 = .ok (.ireturn, 1) := by decide +kernel
theorem dX7_slack_18 : decode cX7_slack 18 = .ok (.aload_n 0, 1) := by decide +kernel
theorem dX7_slack_19 : decode cX7_slack 19 = .ok (.getfield 60, 3) := by decide +kernel
theorem dX7_slack_22 : decode cX7_slack 22 = .ok (.istore_n 2, 1) := by decide +kernel
theorem dX7_slack_23 : decode cX7_slack 23 = .ok (.aload_n 0, 1) := by decide +kernel
theorem dX7_slack_24 : decode cX7_slack 24 = .ok (.iload_n 1, 1) := by decide +kernel
theorem dX7_slack_25 : decode cX7_slack 25 = .ok (.putfield 60, 3) := by decide +kernel
theorem dX7_slack_28 : decode cX7_slack 28 = .ok (.iload_n 2, 1) := by decide +kernel
theorem dX7_slack_29 : decode cX7_slack 29 = .ok (.ireturn, 1) := by decide +kernel
theorem dX7_fitting_0 : decode cX7_fitting 0 = .ok (.iconst 0, 1) := by decide +kernel
theorem dX7_fitting_1 : decode cX7_fitting 1 = .ok (.istore_n 1, 1) := by decide +kernel
theorem dX7_fitting_2 : decode cX7_fitting 2 = .ok (.aload_n 0, 1) := by decide +kernel
theorem dX7_fitting_3 : decode cX7_fitting 3 = .ok (.iconst 0, 1) := by decide +kernel
theorem dX7_fitting_4 : decode cX7_fitting 4 = .ok (.invokevirtual 213, 3) := by decide +kernel
theorem dX7_fitting_7 : decode cX7_fitting 7 = .ok (.iconst 0, 1) := by decide +kernel
theorem dX7_fitting_8 : decode cX7_fitting 8 = .ok (.istore_n 2, 1) := by decide +kernel
theorem dX7_fitting_9 : decode cX7_fitting 9 = .ok (.iload_n 2, 1) := by decide +kernel
theorem dX7_fitting_10 : decode cX7_fitting 10 = .ok (.aload_n 0, 1) := by decide +kernel
theorem dX7_fitting_11 : decode cX7_fitting 11 = .ok (.getfield 245, 3) := by decide +kernel
theorem dX7_fitting_14 : decode cX7_fitting 14 = .ok (.if_icmp .ge 258, 3) := by decide +kernel
theorem dX7_fitting_17 : decode cX7_fitting 17 = .ok (.aload_n 0, 1) := by decide +kernel
theorem dX7_fitting_18 : decode cX7_fitting 18 = .ok (.getfield 7, 3) := by decide +kernel
theorem dX7_fitting_21 : decode cX7_fitting 21 = .ok (.sipush 144, 3) := by decide +kernel
theorem dX7_fitting_24 : decode cX7_fitting 24 = .ok (.aload_n 0, 1) := by decide +kernel
theorem dX7_fitting_25 : decode cX7_fitting 25 = .ok (.getfield 57, 3) := by decide +kernel
theorem dX7_fitting_28 : decode cX7_fitting 28 = .ok (.iconst 2, 1) := by decide +kernel
theorem dX7_fitting_29 : decode cX7_fitting 29 = .ok (.iload_n 2, 1) := by decide +kernel
theorem dX7_fitting_30 : decode cX7_fitting 30 = .ok (.imul, 1) := by decide +kernel
theorem dX7_fitting_31 : decode cX7_fitting 31 = .ok (.iaload, 1) := by decide +kernel
theorem dX7_fitting_32 : decode cX7_fitting 32 = .ok (.iadd, 1) := by decide +kernel
theorem dX7_fitting_33 : decode cX7_fitting 33 = .ok (.aload_n 0, 1) := by decide +kernel
theorem dX7_fitting_34 : decode cX7_fitting 34 = .ok (.getfield 57, 3) := by decide +kernel
theorem dX7_fitting_37 : decode cX7_fitting 37 = .ok (.iconst 2, 1) := by decide +kernel
theorem dX7_fitting_38 : decode cX7_fitting 38 = .ok (.iload_n 2, 1) := by decide +kernel
theorem dX7_fitting_39 : decode cX7_fitting 39 = .ok (.imul, 1) := by decide +kernel
theorem dX7_fitting_40 : decode cX7_fitting 40 = .ok (.iconst 1, 1) := by decide +kernel
theorem dX7_fitting_41 : decode cX7_fitting 41 = .ok (.iadd, 1) := by decide +kernel
theorem dX7_fitting_42 : decode cX7_fitting 42 = .ok (.iaload, 1) := by decide +kernel
theorem dX7_fitting_43 : decode cX7_fitting 43 = .ok (.iastore, 1) := by decide +kernel
theorem dX7_fitting_44 : decode cX7_fitting 44 = .ok (.aload_n 0, 1) := by decide +kernel
theorem dX7_fitting_45 : decode cX7_fitting 45 = .ok (.aload_n 0, 1) := by decide +kernel
theorem dX7_fitting_46 : decode cX7_fitting 46 = .ok (.getfield 7, 3) := by decide +kernel
theorem dX7_fitting_49 : decode cX7_fitting 49 = .ok (.sipush 162, 3) := by decide +kernel
theorem dX7_fitting_52 : decode cX7_fitting 52 = .ok (.iaload, 1) := by decide +kernel
theorem dX7_fitting_53 : decode cX7_fitting 53 = .ok (.invokevirtual 220, 3) := by decide +kernel
theorem dX7_fitting_56 : decode cX7_fitting 56 = .ok (.iconst 1, 1) := by decide +kernel
theorem dX7_fitting_57 : decode cX7_fitting 57 = .ok (.istore_n 3, 1) := by decide +kernel
theorem dX7_fitting_58 : decode cX7_fitting 58 = .ok (.iconst 0, 1) := by decide +kernel
theorem dX7_fitting_59 : decode cX7_fitting 59 = .ok (.istore 4, 2) := by decide +kernel
theorem dX7_fitting_61 : decode cX7_fitting 61 = .ok (.iload 4, 2) := by decide +kernel
theorem dX7_fitting_63 : decode cX7_fitting 63 = .ok (.aload_n 0, 1) := by decide +kernel
theorem dX7_fitting_64 : decode cX7_fitting 64 = .ok (.getfield 242, 3) := by decide +kernel
theorem dX7_fitting_67 : decode cX7_fitting 67 = .ok (.if_icmp .ge 78, 3) := by decide +kernel
theorem dX7_fitting_70 : decode cX7_fitting 70 = .ok (.aload_n 0, 1) := by decide +kernel
theorem dX7_fitting_71 : decode cX7_fitting 71 = .ok (.getfield 54, 3) := by decide +kernel
theorem dX7_fitting_74 : decode cX7_fitting 74 = .ok (.iconst 2, 1) := by decide +kernel
theorem dX7_fitting_75 : decode cX7_fitting 75 = .ok (.iload 4, 2) := by decide +kernel
theorem dX7_fitting_77 : decode cX7_fitting 77 = .ok (.imul, 1) := by decide +kernel
theorem dX7_fitting_78 : decode cX7_fitting 78 = .ok (.iaload, 1) := by decide +kernel
theorem dX7_fitting_79 : decode cX7_fitting 79 = .ok (.istore 5, 2) := by decide +kernel
theorem dX7_fitting_81 : decode cX7_fitting 81 = .ok (.aload_n 0, 1) := by decide +kernel
theorem dX7_fitting_82 : decode cX7_fitting 82 = .ok (.getfield 7, 3) := by decide +kernel
theorem dX7_fitting_85 : decode cX7_fitting 85 = .ok (.bipush 48, 2) := by decide +kernel
theorem dX7_fitting_87 : decode cX7_fitting 87 = .ok (.iload 5, 2) := by decide +kernel
theorem dX7_fitting_89 : decode cX7_fitting 89 = .ok (.iadd, 1) := by decide +kernel
theorem dX7_fitting_90 : decode cX7_fitting 90 = .ok (.iaload, 1) := by decide +kernel
theorem dX7_fitting_91 : decode cX7_fitting 91 = .ok (.aload_n 0, 1) := by decide +kernel
theorem dX7_fitting_92 : decode cX7_fitting 92 = .ok (.getfield 54, 3) := by decide +kernel
theorem dX7_fitting_95 : decode cX7_fitting 95 = .ok (.iconst 2, 1) := by decide +kernel
theorem dX7_fitting_96 : decode cX7_fitting 96 = .ok (.iload 4, 2) := by decide +kernel
theorem dX7_fitting_98 : decode cX7_fitting 98 = .ok (.imul, 1) := by decide +kernel
theorem dX7_fitting_99 : decode cX7_fitting 99 = .ok (.iconst 1, 1) := by decide +kernel
theorem dX7_fitting_100 : decode cX7_fitting 100 = .ok (.iadd, 1) := by decide +kernel
theorem dX7_fitting_101 : decode cX7_fitting 101 = .ok (.iaload, 1) := by decide +kernel
theorem dX7_fitting_102 : decode cX7_fitting 102 = .ok (.isub, 1) := by decide +kernel
theorem dX7_fitting_103 : decode cX7_fitting 103 = .ok (.istore 6, 2) := by decide +kernel
theorem dX7_fitting_105 : decode cX7_fitting 105 = .ok (.iload_n 3, 1) := by decide +kernel
theorem dX7_fitting_106 : decode cX7_fitting 106 = .ok (.aload_n 0, 1) := by decide +kernel
theorem dX7_fitting_107 : decode cX7_fitting 107 = .ok (.iload 5, 2) := by decide +kernel
theorem dX7_fitting_109 : decode cX7_fitting 109 = .ok (.invokevirtual 82, 3) := by decide +kernel
theorem dX7_fitting_112 : decode cX7_fitting 112 = .ok (.ifCond .eq 20, 3) := by decide +kernel
theorem dX7_fitting_115 : decode cX7_fitting 115 = .ok (.iload 6, 2) := by decide +kernel
theorem dX7_fitting_117 : decode cX7_fitting 117 = .ok (.aload_n 0, 1) := by decide +kernel
theorem dX7_fitting_118 : decode cX7_fitting 118 = .ok (.getfield 60, 3) := by decide +kernel
theorem dX7_fitting_121 : decode cX7_fitting 121 = .ok (.ineg, 1) := by decide +kernel
theorem dX7_fitting_122 : decode cX7_fitting 122 = .ok (.aload_n 0, 1) := by decide +kernel
theorem dX7_fitting_123 : decode cX7_fitting 123 = .ok (.getfield 60, 3) := by decide +kernel
theorem dX7_fitting_126 : decode cX7_fitting 126 = .ok (.invokestatic 78, 3) := by decide +kernel
theorem dX7_fitting_129 : decode cX7_fitting 129 = .ok (.ifCond .eq 7, 3) := by decide +kernel
theorem dX7_fitting_132 : decode cX7_fitting 132 = .ok (.iconst 1, 1) := by decide +kernel
theorem dX7_fitting_133 : decode cX7_fitting 133 = .ok (.goto 4, 3) := by decide +kernel
theorem dX7_fitting_136 : decode cX7_fitting 136 = .ok (.iconst 0, 1) := by decide +kernel
theorem dX7_fitting_137 : decode cX7_fitting 137 = .ok (.iand, 1) := by decide +kernel
theorem dX7_fitting_138 : decode cX7_fitting 138 = .ok (.istore_n 3, 1) := by decide +kernel
theorem dX7_fitting_139 : decode cX7_fitting 139 = .ok (.iinc 4 1, 3) := by decide +kernel
theorem dX7_fitting_142 : decode cX7_fitting 142 = .ok (.goto (-81), 3) := by decide +kernel
theorem dX7_fitting_145 : decode cX7_fitting 145 = .ok (.iconst 0, 1) := by decide +kernel
theorem dX7_fitting_146 : decode cX7_fitting 146 = .ok (.istore 4, 2) := by decide +kernel
theorem dX7_fitting_148 : decode cX7_fitting 148 = .ok (.iload 4, 2) := by decide +kernel
theorem dX7_fitting_150 : decode cX7_fitting 150 = .ok (.bipush 48, 2) := by decide +kernel
theorem dX7_fitting_152 : decode cX7_fitting 152 = .ok (.if_icmp .ge 95, 3) := by decide +kernel
theorem dX7_fitting_155 : decode cX7_fitting 155 = .ok (.iload_n 3, 1) := by decide +kernel
theorem dX7_fitting_156 : decode cX7_fitting 156 = .ok (.ifCond .eq 91, 3) := by decide +kernel
theorem dX7_fitting_159 : decode cX7_fitting 159 = .ok (.aload_n 0, 1) := by decide +kernel
theorem dX7_fitting_160 : decode cX7_fitting 160 = .ok (.getfield 7, 3) := by decide +kernel
theorem dX7_fitting_163 : decode cX7_fitting 163 = .ok (.bipush 48, 2) := by decide +kernel
theorem dX7_fitting_165 : decode cX7_fitting 165 = .ok (.iload 4, 2) := by decide +kernel
theorem dX7_fitting_167 : decode cX7_fitting 167 = .ok (.iadd, 1) := by decide +kernel
theorem dX7_fitting_168 : decode cX7_fitting 168 = .ok (.iaload, 1) := by decide +kernel
theorem dX7_fitting_169 : decode cX7_fitting 169 = .ok (.istore 5, 2) := by decide +kernel
theorem dX7_fitting_171 : decode cX7_fitting 171 = .ok (.aload_n 0, 1) := by decide +kernel
theorem dX7_fitting_172 : decode cX7_fitting 172 = .ok (.getfield 63, 3) := by decide +kernel
theorem dX7_fitting_175 : decode cX7_fitting 175 = .ok (.iload 4, 2) := by decide +kernel
theorem dX7_fitting_177 : decode cX7_fitting 177 = .ok (.iload_n 1, 1) := by decide +kernel
theorem dX7_fitting_178 : decode cX7_fitting 178 = .ok (.ifCond .eq 15, 3) := by decide +kernel
theorem dX7_fitting_181 : decode cX7_fitting 181 = .ok (.iload 5, 2) := by decide +kernel
theorem dX7_fitting_183 : decode cX7_fitting 183 = .ok (.aload_n 0, 1) := by decide +kernel
theorem dX7_fitting_184 : decode cX7_fitting 184 = .ok (.getfield 63, 3) := by decide +kernel
theorem dX7_fitting_187 : decode cX7_fitting 187 = .ok (.iload 4, 2) := by decide +kernel
theorem dX7_fitting_189 : decode cX7_fitting 189 = .ok (.iaload, 1) := by decide +kernel
theorem dX7_fitting_190 : decode cX7_fitting 190 = .ok (.if_icmp .le 8, 3) := by decide +kernel
theorem dX7_fitting_193 : decode cX7_fitting 193 = .ok (.iload 5, 2) := by decide +kernel
theorem dX7_fitting_195 : decode cX7_fitting 195 = .ok (.goto 10, 3) := by decide +kernel
theorem dX7_fitting_198 : decode cX7_fitting 198 = .ok (.aload_n 0, 1) := by decide +kernel
theorem dX7_fitting_199 : decode cX7_fitting 199 = .ok (.getfield 63, 3) := by decide +kernel
theorem dX7_fitting_202 : decode cX7_fitting 202 = .ok (.iload 4, 2) := by decide +kernel
theorem dX7_fitting_204 : decode cX7_fitting 204 = .ok (.iaload, 1) := by decide +kernel
theorem dX7_fitting_205 : decode cX7_fitting 205 = .ok (.iastore, 1) := by decide +kernel
theorem dX7_fitting_206 : decode cX7_fitting 206 = .ok (.aload_n 0, 1) := by decide +kernel
theorem dX7_fitting_207 : decode cX7_fitting 207 = .ok (.getfield 66, 3) := by decide +kernel
theorem dX7_fitting_210 : decode cX7_fitting 210 = .ok (.iload 4, 2) := by decide +kernel
theorem dX7_fitting_212 : decode cX7_fitting 212 = .ok (.iload_n 1, 1) := by decide +kernel
theorem dX7_fitting_213 : decode cX7_fitting 213 = .ok (.ifCond .eq 15, 3) := by decide +kernel
theorem dX7_fitting_216 : decode cX7_fitting 216 = .ok (.iload 5, 2) := by decide +kernel
theorem dX7_fitting_218 : decode cX7_fitting 218 = .ok (.aload_n 0, 1) := by decide +kernel
theorem dX7_fitting_219 : decode cX7_fitting 219 = .ok (.getfield 66, 3) := by decide +kernel
theorem dX7_fitting_222 : decode cX7_fitting 222 = .ok (.iload 4, 2) := by decide +kernel
theorem dX7_fitting_224 : decode cX7_fitting 224 = .ok (.iaload, 1) := by decide +kernel
theorem dX7_fitting_225 : decode cX7_fitting 225 = .ok (.if_icmp .ge 8, 3) := by decide +kernel
theorem dX7_fitting_228 : decode cX7_fitting 228 = .ok (.iload 5, 2) := by decide +kernel
theorem dX7_fitting_230 : decode cX7_fitting 230 = .ok (.goto 10, 3) := by decide +kernel
theorem dX7_fitting_233 : decode cX7_fitting 233 = .ok (.aload_n 0, 1) := by decide +kernel
theorem dX7_fitting_234 : decode cX7_fitting 234 = .ok (.getfield 66, 3) := by decide +kernel
theorem dX7_fitting_237 : decode cX7_fitting 237 = .ok (.iload 4, 2) := by decide +kernel
theorem dX7_fitting_239 : decode cX7_fitting 239 = .ok (.iaload, 1) := by decide +kernel
theorem dX7_fitting_240 : decode cX7_fitting 240 = .ok (.iastore, 1) := by decide +kernel
theorem dX7_fitting_241 : decode cX7_fitting 241 = .ok (.iinc 4 1, 3) := by decide +kernel
theorem dX7_fitting_244 : decode cX7_fitting 244 = .ok (.goto (-96), 3) := by decide +kernel
theorem dX7_fitting_247 : decode cX7_fitting 247 = .ok (.iload_n 1, 1) := by decide +kernel
theorem dX7_fitting_248 : decode cX7_fitting 248 = .ok (.iload_n 3, 1) := by decide +kernel
theorem dX7_fitting_249 : decode cX7_fitting 249 = .ok (.ifCond .eq 9, 3) := by decide +kernel
theorem dX7_fitting_252 : decode cX7_fitting 252 = .ok (.iconst 1, 1) := by decide +kernel
theorem dX7_fitting_253 : decode cX7_fitting 253 = .ok (.iload_n 2, 1) := by decide +kernel
theorem dX7_fitting_254 : decode cX7_fitting 254 = .ok (.ishl, 1) := by decide +kernel
theorem dX7_fitting_255 : decode cX7_fitting 255 = .ok (.goto 4, 3) := by decide +kernel
theorem dX7_fitting_258 : decode cX7_fitting 258 = .ok (.iconst 0, 1) := by decide +kernel
theorem dX7_fitting_259 : decode cX7_fitting 259 = .ok (.ior, 1) := by decide +kernel
theorem dX7_fitting_260 : decode cX7_fitting 260 = .ok (.istore_n 1, 1) := by decide +kernel
theorem dX7_fitting_261 : decode cX7_fitting 261 = .ok (.aload_n 0, 1) := by decide +kernel
theorem dX7_fitting_262 : decode cX7_fitting 262 = .ok (.iconst 1, 1) := by decide +kernel
theorem dX7_fitting_263 : decode cX7_fitting 263 = .ok (.invokevirtual 213, 3) := by decide +kernel
theorem dX7_fitting_266 : decode cX7_fitting 266 = .ok (.iinc 2 1, 3) := by decide +kernel
theorem dX7_fitting_269 : decode cX7_fitting 269 = .ok (.goto (-260), 3) := by decide +kernel
theorem dX7_fitting_272 : decode cX7_fitting 272 = .ok (.iload_n 1, 1) := by decide +kernel
theorem dX7_fitting_273 : decode cX7_fitting 273 = .ok (.ireturn, 1) := by decide +kernel
theorem dX7_fits_0 : decode cX7_fits 0 = .ok (.aload_n 0, 1) := by decide +kernel
theorem dX7_fits_1 : decode cX7_fits 1 = .ok (.iconst 0, 1) := by decide +kernel
theorem dX7_fits_2 : decode cX7_fits 2 = .ok (.putfield 75, 3) := by decide +kernel
theorem dX7_fits_5 : decode cX7_fits 5 = .ok (.aload_n 0, 1) := by decide +kernel
theorem dX7_fits_6 : decode cX7_fits 6 = .ok (.invokevirtual 248, 3) := by decide +kernel
theorem dX7_fits_9 : decode cX7_fits 9 = .ok (.ireturn, 1) := by decide +kernel
theorem dX7_next_0 : decode cX7_next 0 = .ok (.aload_n 0, 1) := by decide +kernel
theorem dX7_next_1 : decode cX7_next 1 = .ok (.iconst 0, 1) := by decide +kernel
theorem dX7_next_2 : decode cX7_next 2 = .ok (.putfield 75, 3) := by decide +kernel
theorem dX7_next_5 : decode cX7_next 5 = .ok (.iload_n 1, 1) := by decide +kernel
theorem dX7_next_6 : decode cX7_next 6 = .ok (.iconst 0, 1) := by decide +kernel
theorem dX7_next_7 : decode cX7_next 7 = .ok (.iconst 1, 1) := by decide +kernel
theorem dX7_next_8 : decode cX7_next 8 = .ok (.invokestatic 78, 3) := by decide +kernel
theorem dX7_next_11 : decode cX7_next 11 = .ok (.ifCond .ne 5, 3) := by decide +kernel
theorem dX7_next_14 : decode cX7_next 14 = .ok (.iconst (-1), 1) := by decide +kernel
theorem dX7_next_15 : decode cX7_next 15 = .ok (.ireturn, 1) := by decide +kernel
theorem dX7_next_16 : decode cX7_next 16 = .ok (.aload_n 0, 1) := by decide +kernel
theorem dX7_next_17 : decode cX7_next 17 = .ok (.invokevirtual 248, 3) := by decide +kernel
theorem dX7_next_20 : decode cX7_next 20 = .ok (.istore_n 2, 1) := by decide +kernel
theorem dX7_next_21 : decode cX7_next 21 = .ok (.iload_n 2, 1) := by decide +kernel
theorem dX7_next_22 : decode cX7_next 22 = .ok (.iload_n 2, 1) := by decide +kernel
theorem dX7_next_23 : decode cX7_next 23 = .ok (.iconst 1, 1) := by decide +kernel
theorem dX7_next_24 : decode cX7_next 24 = .ok (.isub, 1) := by decide +kernel
theorem dX7_next_25 : decode cX7_next 25 = .ok (.iand, 1) := by decide +kernel
theorem dX7_next_26 : decode cX7_next 26 = .ok (.ifCond .ne 6, 3) := by decide +kernel
theorem dX7_next_29 : decode cX7_next 29 = .ok (.bipush (-9), 2) := by decide +kernel
theorem dX7_next_31 : decode cX7_next 31 = .ok (.ireturn, 1) := by decide +kernel
theorem dX7_next_32 : decode cX7_next 32 = .ok (.bipush (-9), 2) := by decide +kernel
theorem dX7_next_34 : decode cX7_next 34 = .ok (.istore_n 3, 1) := by decide +kernel
theorem dX7_next_35 : decode cX7_next 35 = .ok (.iconst 0, 1) := by decide +kernel
theorem dX7_next_36 : decode cX7_next 36 = .ok (.istore 4, 2) := by decide +kernel
theorem dX7_next_38 : decode cX7_next 38 = .ok (.iconst 0, 1) := by decide +kernel
theorem dX7_next_39 : decode cX7_next 39 = .ok (.istore 5, 2) := by decide +kernel
theorem dX7_next_41 : decode cX7_next 41 = .ok (.iload 5, 2) := by decide +kernel
theorem dX7_next_43 : decode cX7_next 43 = .ok (.bipush 48, 2) := by decide +kernel
theorem dX7_next_45 : decode cX7_next 45 = .ok (.if_icmp .ge 64, 3) := by decide +kernel
theorem dX7_next_48 : decode cX7_next 48 = .ok (.aload_n 0, 1) := by decide +kernel
theorem dX7_next_49 : decode cX7_next 49 = .ok (.iload 5, 2) := by decide +kernel
theorem dX7_next_51 : decode cX7_next 51 = .ok (.invokevirtual 82, 3) := by decide +kernel
theorem dX7_next_54 : decode cX7_next 54 = .ok (.ifCond .eq 49, 3) := by decide +kernel
theorem dX7_next_57 : decode cX7_next 57 = .ok (.iload_n 3, 1) := by decide +kernel
theorem dX7_next_58 : decode cX7_next 58 = .ok (.bipush (-9), 2) := by decide +kernel
theorem dX7_next_60 : decode cX7_next 60 = .ok (.if_icmp .eq 23, 3) := by decide +kernel
theorem dX7_next_63 : decode cX7_next 63 = .ok (.aload_n 0, 1) := by decide +kernel
theorem dX7_next_64 : decode cX7_next 64 = .ok (.getfield 63, 3) := by decide +kernel
theorem dX7_next_67 : decode cX7_next 67 = .ok (.iload 5, 2) := by decide +kernel
theorem dX7_next_69 : decode cX7_next 69 = .ok (.iaload, 1) := by decide +kernel
theorem dX7_next_70 : decode cX7_next 70 = .ok (.aload_n 0, 1) := by decide +kernel
theorem dX7_next_71 : decode cX7_next 71 = .ok (.getfield 66, 3) := by decide +kernel
theorem dX7_next_74 : decode cX7_next 74 = .ok (.iload 5, 2) := by decide +kernel
theorem dX7_next_76 : decode cX7_next 76 = .ok (.iaload, 1) := by decide +kernel
theorem dX7_next_77 : decode cX7_next 77 = .ok (.isub, 1) := by decide +kernel
theorem dX7_next_78 : decode cX7_next 78 = .ok (.iload 4, 2) := by decide +kernel
theorem dX7_next_80 : decode cX7_next 80 = .ok (.if_icmp .le 23, 3) := by decide +kernel
theorem dX7_next_83 : decode cX7_next 83 = .ok (.iload 5, 2) := by decide +kernel
theorem dX7_next_85 : decode cX7_next 85 = .ok (.istore_n 3, 1) := by decide +kernel
theorem dX7_next_86 : decode cX7_next 86 = .ok (.aload_n 0, 1) := by decide +kernel
theorem dX7_next_87 : decode cX7_next 87 = .ok (.getfield 63, 3) := by decide +kernel
theorem dX7_next_90 : decode cX7_next 90 = .ok (.iload 5, 2) := by decide +kernel
theorem dX7_next_92 : decode cX7_next 92 = .ok (.iaload, 1) := by decide +kernel
theorem dX7_next_93 : decode cX7_next 93 = .ok (.aload_n 0, 1) := by decide +kernel
theorem dX7_next_94 : decode cX7_next 94 = .ok (.getfield 66, 3) := by decide +kernel
theorem dX7_next_97 : decode cX7_next 97 = .ok (.iload 5, 2) := by decide +kernel
theorem dX7_next_99 : decode cX7_next 99 = .ok (.iaload, 1) := by decide +kernel
theorem dX7_next_100 : decode cX7_next 100 = .ok (.isub, 1) := by decide +kernel
theorem dX7_next_101 : decode cX7_next 101 = .ok (.istore 4, 2) := by decide +kernel
theorem dX7_next_103 : decode cX7_next 103 = .ok (.iinc 5 1, 3) := by decide +kernel
theorem dX7_next_106 : decode cX7_next 106 = .ok (.goto (-65), 3) := by decide +kernel
theorem dX7_next_109 : decode cX7_next 109 = .ok (.iload_n 3, 1) := by decide +kernel
theorem dX7_next_110 : decode cX7_next 110 = .ok (.bipush (-9), 2) := by decide +kernel
theorem dX7_next_112 : decode cX7_next 112 = .ok (.if_icmp .eq 7, 3) := by decide +kernel
theorem dX7_next_115 : decode cX7_next 115 = .ok (.iload_n 1, 1) := by decide +kernel
theorem dX7_next_116 : decode cX7_next 116 = .ok (.ifCond .ne 7, 3) := by decide +kernel
theorem dX7_next_119 : decode cX7_next 119 = .ok (.iload_n 3, 1) := by decide +kernel
theorem dX7_next_120 : decode cX7_next 120 = .ok (.goto 5, 3) := by decide +kernel
theorem dX7_next_123 : decode cX7_next 123 = .ok (.iload 4, 2) := by decide +kernel
theorem dX7_next_125 : decode cX7_next 125 = .ok (.ireturn, 1) := by decide +kernel
theorem dX7_work_0 : decode cX7_work 0 = .ok (.aload_n 0, 1) := by decide +kernel
theorem dX7_work_1 : decode cX7_work 1 = .ok (.iconst 0, 1) := by decide +kernel
theorem dX7_work_2 : decode cX7_work 2 = .ok (.putfield 75, 3) := by decide +kernel
theorem dX7_work_5 : decode cX7_work 5 = .ok (.iload_n 1, 1) := by decide +kernel
theorem dX7_work_6 : decode cX7_work 6 = .ok (.iconst 0, 1) := by decide +kernel
theorem dX7_work_7 : decode cX7_work 7 = .ok (.iconst 1, 1) := by decide +kernel
theorem dX7_work_8 : decode cX7_work 8 = .ok (.invokestatic 78, 3) := by decide +kernel
theorem dX7_work_11 : decode cX7_work 11 = .ok (.ifCond .eq 58, 3) := by decide +kernel
theorem dX7_work_14 : decode cX7_work 14 = .ok (.iload_n 2, 1) := by decide +kernel
theorem dX7_work_15 : decode cX7_work 15 = .ok (.iload_n 3, 1) := by decide +kernel
theorem dX7_work_16 : decode cX7_work 16 = .ok (.invokestatic 144, 3) := by decide +kernel
theorem dX7_work_19 : decode cX7_work 19 = .ok (.ifCond .eq 50, 3) := by decide +kernel
theorem dX7_work_22 : decode cX7_work 22 = .ok (.iload_n 1, 1) := by decide +kernel
theorem dX7_work_23 : decode cX7_work 23 = .ok (.ifCond .ne 7, 3) := by decide +kernel
theorem dX7_work_26 : decode cX7_work 26 = .ok (.iload_n 3, 1) := by decide +kernel
theorem dX7_work_27 : decode cX7_work 27 = .ok (.ifCond .ne 42, 3) := by decide +kernel
theorem dX7_work_30 : decode cX7_work 30 = .ok (.iload 4, 2) := by decide +kernel
theorem dX7_work_32 : decode cX7_work 32 = .ok (.iload_n 1, 1) := by decide +kernel
theorem dX7_work_33 : decode cX7_work 33 = .ok (.ifCond .ne 7, 3) := by decide +kernel
theorem dX7_work_36 : decode cX7_work 36 = .ok (.iconst 1, 1) := by decide +kernel
theorem dX7_work_37 : decode cX7_work 37 = .ok (.goto 4, 3) := by decide +kernel
theorem dX7_work_40 : decode cX7_work 40 = .ok (.iconst 0, 1) := by decide +kernel
theorem dX7_work_41 : decode cX7_work 41 = .ok (.iload_n 1, 1) := by decide +kernel
theorem dX7_work_42 : decode cX7_work 42 = .ok (.ifCond .ne 8, 3) := by decide +kernel
theorem dX7_work_45 : decode cX7_work 45 = .ok (.bipush 99, 2) := by decide +kernel
theorem dX7_work_47 : decode cX7_work 47 = .ok (.goto 4, 3) := by decide +kernel
theorem dX7_work_50 : decode cX7_work 50 = .ok (.iconst 0, 1) := by decide +kernel
theorem dX7_work_51 : decode cX7_work 51 = .ok (.invokestatic 78, 3) := by decide +kernel
theorem dX7_work_54 : decode cX7_work 54 = .ok (.ifCond .eq 15, 3) := by decide +kernel
theorem dX7_work_57 : decode cX7_work 57 = .ok (.iload 5, 2) := by decide +kernel
theorem dX7_work_59 : decode cX7_work 59 = .ok (.iconst 0, 1) := by decide +kernel
theorem dX7_work_60 : decode cX7_work 60 = .ok (.sipush 999, 3) := by decide +kernel
theorem dX7_work_63 : decode cX7_work 63 = .ok (.invokestatic 78, 3) := by decide +kernel
theorem dX7_work_66 : decode cX7_work 66 = .ok (.ifCond .ne 5, 3) := by decide +kernel
theorem dX7_work_69 : decode cX7_work 69 = .ok (.iconst (-1), 1) := by decide +kernel
theorem dX7_work_70 : decode cX7_work 70 = .ok (.ireturn, 1) := by decide +kernel
theorem dX7_work_71 : decode cX7_work 71 = .ok (.aload_n 0, 1) := by decide +kernel
theorem dX7_work_72 : decode cX7_work 72 = .ok (.getfield 251, 3) := by decide +kernel
theorem dX7_work_75 : decode cX7_work 75 = .ok (.bipush 8, 2) := by decide +kernel
theorem dX7_work_77 : decode cX7_work 77 = .ok (.if_icmp .ne 6, 3) := by decide +kernel
theorem dX7_work_80 : decode cX7_work 80 = .ok (.bipush (-3), 2) := by decide +kernel
theorem dX7_work_82 : decode cX7_work 82 = .ok (.ireturn, 1) := by decide +kernel
theorem dX7_work_83 : decode cX7_work 83 = .ok (.iconst 5, 1) := by decide +kernel
theorem dX7_work_84 : decode cX7_work 84 = .ok (.aload_n 0, 1) := by decide +kernel
theorem dX7_work_85 : decode cX7_work 85 = .ok (.getfield 251, 3) := by decide +kernel
theorem dX7_work_88 : decode cX7_work 88 = .ok (.imul, 1) := by decide +kernel
theorem dX7_work_89 : decode cX7_work 89 = .ok (.istore 6, 2) := by decide +kernel
theorem dX7_work_91 : decode cX7_work 91 = .ok (.aload_n 0, 1) := by decide +kernel
theorem dX7_work_92 : decode cX7_work 92 = .ok (.getfield 69, 3) := by decide +kernel
theorem dX7_work_95 : decode cX7_work 95 = .ok (.iload 6, 2) := by decide +kernel
theorem dX7_work_97 : decode cX7_work 97 = .ok (.iload_n 1, 1) := by decide +kernel
theorem dX7_work_98 : decode cX7_work 98 = .ok (.iastore, 1) := by decide +kernel
theorem dX7_work_99 : decode cX7_work 99 = .ok (.aload_n 0, 1) := by decide +kernel
theorem dX7_work_100 : decode cX7_work 100 = .ok (.getfield 69, 3) := by decide +kernel
theorem dX7_work_103 : decode cX7_work 103 = .ok (.iload 6, 2) := by decide +kernel
theorem dX7_work_105 : decode cX7_work 105 = .ok (.iconst 1, 1) := by decide +kernel
theorem dX7_work_106 : decode cX7_work 106 = .ok (.iadd, 1) := by decide +kernel
theorem dX7_work_107 : decode cX7_work 107 = .ok (.iload_n 2, 1) := by decide +kernel
theorem dX7_work_108 : decode cX7_work 108 = .ok (.iastore, 1) := by decide +kernel
theorem dX7_work_109 : decode cX7_work 109 = .ok (.aload_n 0, 1) := by decide +kernel
theorem dX7_work_110 : decode cX7_work 110 = .ok (.getfield 69, 3) := by decide +kernel
theorem dX7_work_113 : decode cX7_work 113 = .ok (.iload 6, 2) := by decide +kernel
theorem dX7_work_115 : decode cX7_work 115 = .ok (.iconst 2, 1) := by decide +kernel
theorem dX7_work_116 : decode cX7_work 116 = .ok (.iadd, 1) := by decide +kernel
theorem dX7_work_117 : decode cX7_work 117 = .ok (.iload_n 3, 1) := by decide +kernel
theorem dX7_work_118 : decode cX7_work 118 = .ok (.iastore, 1) := by decide +kernel
theorem dX7_work_119 : decode cX7_work 119 = .ok (.aload_n 0, 1) := by decide +kernel
theorem dX7_work_120 : decode cX7_work 120 = .ok (.getfield 69, 3) := by decide +kernel
theorem dX7_work_123 : decode cX7_work 123 = .ok (.iload 6, 2) := by decide +kernel
theorem dX7_work_125 : decode cX7_work 125 = .ok (.iconst 3, 1) := by decide +kernel
theorem dX7_work_126 : decode cX7_work 126 = .ok (.iadd, 1) := by decide +kernel
theorem dX7_work_127 : decode cX7_work 127 = .ok (.iload 4, 2) := by decide +kernel
theorem dX7_work_129 : decode cX7_work 129 = .ok (.iastore, 1) := by decide +kernel
theorem dX7_work_130 : decode cX7_work 130 = .ok (.aload_n 0, 1) := by decide +kernel
theorem dX7_work_131 : decode cX7_work 131 = .ok (.getfield 69, 3) := by decide +kernel
theorem dX7_work_134 : decode cX7_work 134 = .ok (.iload 6, 2) := by decide +kernel
theorem dX7_work_136 : decode cX7_work 136 = .ok (.iconst 4, 1) := by decide +kernel
theorem dX7_work_137 : decode cX7_work 137 = .ok (.iadd, 1) := by decide +kernel
theorem dX7_work_138 : decode cX7_work 138 = .ok (.iload 5, 2) := by decide +kernel
theorem dX7_work_140 : decode cX7_work 140 = .ok (.iastore, 1) := by decide +kernel
theorem dX7_work_141 : decode cX7_work 141 = .ok (.aload_n 0, 1) := by decide +kernel
theorem dX7_work_142 : decode cX7_work 142 = .ok (.dup, 1) := by decide +kernel
theorem dX7_work_143 : decode cX7_work 143 = .ok (.getfield 251, 3) := by decide +kernel
theorem dX7_work_146 : decode cX7_work 146 = .ok (.iconst 1, 1) := by decide +kernel
theorem dX7_work_147 : decode cX7_work 147 = .ok (.iadd, 1) := by decide +kernel
theorem dX7_work_148 : decode cX7_work 148 = .ok (.putfield 251, 3) := by decide +kernel
theorem dX7_work_151 : decode cX7_work 151 = .ok (.aload_n 0, 1) := by decide +kernel
theorem dX7_work_152 : decode cX7_work 152 = .ok (.getfield 251, 3) := by decide +kernel
theorem dX7_work_155 : decode cX7_work 155 = .ok (.iconst 1, 1) := by decide +kernel
theorem dX7_work_156 : decode cX7_work 156 = .ok (.isub, 1) := by decide +kernel
theorem dX7_work_157 : decode cX7_work 157 = .ok (.ireturn, 1) := by decide +kernel
theorem dX7_cheapest_0 : decode cX7_cheapest 0 = .ok (.aload_n 0, 1) := by decide +kernel
theorem dX7_cheapest_1 : decode cX7_cheapest 1 = .ok (.iconst 0, 1) := by decide +kernel
theorem dX7_cheapest_2 : decode cX7_cheapest 2 = .ok (.putfield 75, 3) := by decide +kernel
theorem dX7_cheapest_5 : decode cX7_cheapest 5 = .ok (.iload_n 1, 1) := by decide +kernel
theorem dX7_cheapest_6 : decode cX7_cheapest 6 = .ok (.iconst 0, 1) := by decide +kernel
theorem dX7_cheapest_7 : decode cX7_cheapest 7 = .ok (.sipush 9999, 3) := by decide +kernel
theorem dX7_cheapest_10 : decode cX7_cheapest 10 = .ok (.invokestatic 78, 3) := by decide +kernel
theorem dX7_cheapest_13 : decode cX7_cheapest 13 = .ok (.ifCond .eq 12, 3) := by decide +kernel
theorem dX7_cheapest_16 : decode cX7_cheapest 16 = .ok (.iload_n 2, 1) := by decide +kernel
theorem dX7_cheapest_17 : decode cX7_cheapest 17 = .ok (.iconst 0, 1) := by decide +kernel
theorem dX7_cheapest_18 : decode cX7_cheapest 18 = .ok (.iconst 1, 1) := by decide +kernel
theorem dX7_cheapest_19 : decode cX7_cheapest 19 = .ok (.invokestatic 78, 3) := by decide +kernel
theorem dX7_cheapest_22 : decode cX7_cheapest 22 = .ok (.ifCond .ne 5, 3) := by decide +kernel
theorem dX7_cheapest_25 : decode cX7_cheapest 25 = .ok (.iconst (-1), 1) := by decide +kernel
theorem dX7_cheapest_26 : decode cX7_cheapest 26 = .ok (.ireturn, 1) := by decide +kernel
theorem dX7_cheapest_27 : decode cX7_cheapest 27 = .ok (.bipush (-9), 2) := by decide +kernel
theorem dX7_cheapest_29 : decode cX7_cheapest 29 = .ok (.istore_n 3, 1) := by decide +kernel
theorem dX7_cheapest_30 : decode cX7_cheapest 30 = .ok (.iconst 0, 1) := by decide +kernel
theorem dX7_cheapest_31 : decode cX7_cheapest 31 = .ok (.istore 4, 2) := by decide +kernel
theorem dX7_cheapest_33 : decode cX7_cheapest 33 = .ok (.iconst 0, 1) := by decide +kernel
theorem dX7_cheapest_34 : decode cX7_cheapest 34 = .ok (.istore 5, 2) := by decide +kernel
theorem dX7_cheapest_36 : decode cX7_cheapest 36 = .ok (.iload 5, 2) := by decide +kernel
theorem dX7_cheapest_38 : decode cX7_cheapest 38 = .ok (.iconst 1, 1) := by decide +kernel
theorem dX7_cheapest_39 : decode cX7_cheapest 39 = .ok (.aload_n 0, 1) := by decide +kernel
theorem dX7_cheapest_40 : decode cX7_cheapest 40 = .ok (.getfield 251, 3) := by decide +kernel
theorem dX7_cheapest_43 : decode cX7_cheapest 43 = .ok (.ishl, 1) := by decide +kernel
theorem dX7_cheapest_44 : decode cX7_cheapest 44 = .ok (.if_icmp .ge 174, 3) := by decide +kernel
theorem dX7_cheapest_47 : decode cX7_cheapest 47 = .ok (.iconst 0, 1) := by decide +kernel
theorem dX7_cheapest_48 : decode cX7_cheapest 48 = .ok (.istore 6, 2) := by decide +kernel
theorem dX7_cheapest_50 : decode cX7_cheapest 50 = .ok (.aload_n 0, 1) := by decide +kernel
theorem dX7_cheapest_51 : decode cX7_cheapest 51 = .ok (.invokevirtual 200, 3) := by decide +kernel
theorem dX7_cheapest_54 : decode cX7_cheapest 54 = .ok (.iconst 0, 1) := by decide +kernel
theorem dX7_cheapest_55 : decode cX7_cheapest 55 = .ok (.istore 7, 2) := by decide +kernel
theorem dX7_cheapest_57 : decode cX7_cheapest 57 = .ok (.iload 7, 2) := by decide +kernel
theorem dX7_cheapest_59 : decode cX7_cheapest 59 = .ok (.aload_n 0, 1) := by decide +kernel
theorem dX7_cheapest_60 : decode cX7_cheapest 60 = .ok (.getfield 251, 3) := by decide +kernel
theorem dX7_cheapest_63 : decode cX7_cheapest 63 = .ok (.if_icmp .ge 107, 3) := by decide +kernel
theorem dX7_cheapest_66 : decode cX7_cheapest 66 = .ok (.iconst 5, 1) := by decide +kernel
theorem dX7_cheapest_67 : decode cX7_cheapest 67 = .ok (.iload 7, 2) := by decide +kernel
theorem dX7_cheapest_69 : decode cX7_cheapest 69 = .ok (.imul, 1) := by decide +kernel
theorem dX7_cheapest_70 : decode cX7_cheapest 70 = .ok (.istore 8, 2) := by decide +kernel
theorem dX7_cheapest_72 : decode cX7_cheapest 72 = .ok (.iload 5, 2) := by decide +kernel
theorem dX7_cheapest_74 : decode cX7_cheapest 74 = .ok (.iload 7, 2) := by decide +kernel
theorem dX7_cheapest_76 : decode cX7_cheapest 76 = .ok (.ishr, 1) := by decide +kernel
theorem dX7_cheapest_77 : decode cX7_cheapest 77 = .ok (.iconst 1, 1) := by decide +kernel
theorem dX7_cheapest_78 : decode cX7_cheapest 78 = .ok (.iand, 1) := by decide +kernel
theorem dX7_cheapest_79 : decode cX7_cheapest 79 = .ok (.iconst 1, 1) := by decide +kernel
theorem dX7_cheapest_80 : decode cX7_cheapest 80 = .ok (.if_icmp .ne 84, 3) := by decide +kernel
theorem dX7_cheapest_83 : decode cX7_cheapest 83 = .ok (.iload 6, 2) := by decide +kernel
theorem dX7_cheapest_85 : decode cX7_cheapest 85 = .ok (.aload_n 0, 1) := by decide +kernel
theorem dX7_cheapest_86 : decode cX7_cheapest 86 = .ok (.getfield 69, 3) := by decide +kernel
theorem dX7_cheapest_89 : decode cX7_cheapest 89 = .ok (.iload 8, 2) := by decide +kernel
theorem dX7_cheapest_91 : decode cX7_cheapest 91 = .ok (.iconst 4, 1) := by decide +kernel
theorem dX7_cheapest_92 : decode cX7_cheapest 92 = .ok (.iadd, 1) := by decide +kernel
theorem dX7_cheapest_93 : decode cX7_cheapest 93 = .ok (.iaload, 1) := by decide +kernel
theorem dX7_cheapest_94 : decode cX7_cheapest 94 = .ok (.iadd, 1) := by decide +kernel
theorem dX7_cheapest_95 : decode cX7_cheapest 95 = .ok (.istore 6, 2) := by decide +kernel
theorem dX7_cheapest_97 : decode cX7_cheapest 97 = .ok (.aload_n 0, 1) := by decide +kernel
theorem dX7_cheapest_98 : decode cX7_cheapest 98 = .ok (.getfield 69, 3) := by decide +kernel
theorem dX7_cheapest_101 : decode cX7_cheapest 101 = .ok (.iload 8, 2) := by decide +kernel
theorem dX7_cheapest_103 : decode cX7_cheapest 103 = .ok (.iaload, 1) := by decide +kernel
theorem dX7_cheapest_104 : decode cX7_cheapest 104 = .ok (.ifCond .ne 32, 3) := by decide +kernel
theorem dX7_cheapest_107 : decode cX7_cheapest 107 = .ok (.aload_n 0, 1) := by decide +kernel
theorem dX7_cheapest_108 : decode cX7_cheapest 108 = .ok (.getfield 39, 3) := by decide +kernel
theorem dX7_cheapest_111 : decode cX7_cheapest 111 = .ok (.aload_n 0, 1) := by decide +kernel
theorem dX7_cheapest_112 : decode cX7_cheapest 112 = .ok (.getfield 69, 3) := by decide +kernel
theorem dX7_cheapest_115 : decode cX7_cheapest 115 = .ok (.iload 8, 2) := by decide +kernel
theorem dX7_cheapest_117 : decode cX7_cheapest 117 = .ok (.iconst 1, 1) := by decide +kernel
theorem dX7_cheapest_118 : decode cX7_cheapest 118 = .ok (.iadd, 1) := by decide +kernel
theorem dX7_cheapest_119 : decode cX7_cheapest 119 = .ok (.iaload, 1) := by decide +kernel
theorem dX7_cheapest_120 : decode cX7_cheapest 120 = .ok (.dup2, 1) := by decide +kernel
theorem dX7_cheapest_121 : decode cX7_cheapest 121 = .ok (.iaload, 1) := by decide +kernel
theorem dX7_cheapest_122 : decode cX7_cheapest 122 = .ok (.aload_n 0, 1) := by decide +kernel
theorem dX7_cheapest_123 : decode cX7_cheapest 123 = .ok (.getfield 69, 3) := by decide +kernel
theorem dX7_cheapest_126 : decode cX7_cheapest 126 = .ok (.iload 8, 2) := by decide +kernel
theorem dX7_cheapest_128 : decode cX7_cheapest 128 = .ok (.iconst 3, 1) := by decide +kernel
theorem dX7_cheapest_129 : decode cX7_cheapest 129 = .ok (.iadd, 1) := by decide +kernel
theorem dX7_cheapest_130 : decode cX7_cheapest 130 = .ok (.iaload, 1) := by decide +kernel
theorem dX7_cheapest_131 : decode cX7_cheapest 131 = .ok (.iadd, 1) := by decide +kernel
theorem dX7_cheapest_132 : decode cX7_cheapest 132 = .ok (.iastore, 1) := by decide +kernel
theorem dX7_cheapest_133 : decode cX7_cheapest 133 = .ok (.goto 31, 3) := by decide +kernel
theorem dX7_cheapest_136 : decode cX7_cheapest 136 = .ok (.aload_n 0, 1) := by decide +kernel
theorem dX7_cheapest_137 : decode cX7_cheapest 137 = .ok (.getfield 42, 3) := by decide +kernel
theorem dX7_cheapest_140 : decode cX7_cheapest 140 = .ok (.bipush 8, 2) := by decide +kernel
theorem dX7_cheapest_142 : decode cX7_cheapest 142 = .ok (.aload_n 0, 1) := by decide +kernel
theorem dX7_cheapest_143 : decode cX7_cheapest 143 = .ok (.getfield 69, 3) := by decide +kernel
theorem dX7_cheapest_146 : decode cX7_cheapest 146 = .ok (.iload 8, 2) := by decide +kernel
theorem dX7_cheapest_148 : decode cX7_cheapest 148 = .ok (.iconst 2, 1) := by decide +kernel
theorem dX7_cheapest_149 : decode cX7_cheapest 149 = .ok (.iadd, 1) := by decide +kernel
theorem dX7_cheapest_150 : decode cX7_cheapest 150 = .ok (.iaload, 1) := by decide +kernel
theorem dX7_cheapest_151 : decode cX7_cheapest 151 = .ok (.imul, 1) := by decide +kernel
theorem dX7_cheapest_152 : decode cX7_cheapest 152 = .ok (.aload_n 0, 1) := by decide +kernel
theorem dX7_cheapest_153 : decode cX7_cheapest 153 = .ok (.getfield 69, 3) := by decide +kernel
theorem dX7_cheapest_156 : decode cX7_cheapest 156 = .ok (.iload 8, 2) := by decide +kernel
theorem dX7_cheapest_158 : decode cX7_cheapest 158 = .ok (.iconst 1, 1) := by decide +kernel
theorem dX7_cheapest_159 : decode cX7_cheapest 159 = .ok (.iadd, 1) := by decide +kernel
theorem dX7_cheapest_160 : decode cX7_cheapest 160 = .ok (.iaload, 1) := by decide +kernel
theorem dX7_cheapest_161 : decode cX7_cheapest 161 = .ok (.iadd, 1) := by decide +kernel
theorem dX7_cheapest_162 : decode cX7_cheapest 162 = .ok (.iconst 1, 1) := by decide +kernel
theorem dX7_cheapest_163 : decode cX7_cheapest 163 = .ok (.bastore, 1) := by decide +kernel
theorem dX7_cheapest_164 : decode cX7_cheapest 164 = .ok (.iinc 7 1, 3) := by decide +kernel
theorem dX7_cheapest_167 : decode cX7_cheapest 167 = .ok (.goto (-110), 3) := by decide +kernel
theorem dX7_cheapest_170 : decode cX7_cheapest 170 = .ok (.iload_n 3, 1) := by decide +kernel
theorem dX7_cheapest_171 : decode cX7_cheapest 171 = .ok (.bipush (-9), 2) := by decide +kernel
theorem dX7_cheapest_173 : decode cX7_cheapest 173 = .ok (.if_icmp .eq 10, 3) := by decide +kernel
theorem dX7_cheapest_176 : decode cX7_cheapest 176 = .ok (.iload 6, 2) := by decide +kernel
theorem dX7_cheapest_178 : decode cX7_cheapest 178 = .ok (.iload 4, 2) := by decide +kernel
theorem dX7_cheapest_180 : decode cX7_cheapest 180 = .ok (.if_icmp .ge 32, 3) := by decide +kernel
theorem dX7_cheapest_183 : decode cX7_cheapest 183 = .ok (.aload_n 0, 1) := by decide +kernel
theorem dX7_cheapest_184 : decode cX7_cheapest 184 = .ok (.iconst 0, 1) := by decide +kernel
theorem dX7_cheapest_185 : decode cX7_cheapest 185 = .ok (.invokevirtual 203, 3) := by decide +kernel
theorem dX7_cheapest_188 : decode cX7_cheapest 188 = .ok (.aload_n 0, 1) := by decide +kernel
theorem dX7_cheapest_189 : decode cX7_cheapest 189 = .ok (.getfield 188, 3) := by decide +kernel
theorem dX7_cheapest_192 : decode cX7_cheapest 192 = .ok (.bipush (-9), 2) := by decide +kernel
theorem dX7_cheapest_194 : decode cX7_cheapest 194 = .ok (.if_icmp .eq 11, 3) := by decide +kernel
theorem dX7_cheapest_197 : decode cX7_cheapest 197 = .ok (.aload_n 0, 1) := by decide +kernel
theorem dX7_cheapest_198 : decode cX7_cheapest 198 = .ok (.getfield 188, 3) := by decide +kernel
theorem dX7_cheapest_201 : decode cX7_cheapest 201 = .ok (.iload_n 1, 1) := by decide +kernel
theorem dX7_cheapest_202 : decode cX7_cheapest 202 = .ok (.if_icmp .lt 10, 3) := by decide +kernel
theorem dX7_cheapest_205 : decode cX7_cheapest 205 = .ok (.iload 5, 2) := by decide +kernel
theorem dX7_cheapest_207 : decode cX7_cheapest 207 = .ok (.istore_n 3, 1) := by decide +kernel
theorem dX7_cheapest_208 : decode cX7_cheapest 208 = .ok (.iload 6, 2) := by decide +kernel
theorem dX7_cheapest_210 : decode cX7_cheapest 210 = .ok (.istore 4, 2) := by decide +kernel
theorem dX7_cheapest_212 : decode cX7_cheapest 212 = .ok (.iinc 5 1, 3) := by decide +kernel
theorem dX7_cheapest_215 : decode cX7_cheapest 215 = .ok (.goto (-179), 3) := by decide +kernel
theorem dX7_cheapest_218 : decode cX7_cheapest 218 = .ok (.iload_n 3, 1) := by decide +kernel
theorem dX7_cheapest_219 : decode cX7_cheapest 219 = .ok (.bipush (-9), 2) := by decide +kernel
theorem dX7_cheapest_221 : decode cX7_cheapest 221 = .ok (.if_icmp .ne 8, 3) := by decide +kernel
theorem dX7_cheapest_224 : decode cX7_cheapest 224 = .ok (.bipush (-9), 2) := by decide +kernel
theorem dX7_cheapest_226 : decode cX7_cheapest 226 = .ok (.goto 13, 3) := by decide +kernel
theorem dX7_cheapest_229 : decode cX7_cheapest 229 = .ok (.iload_n 2, 1) := by decide +kernel
theorem dX7_cheapest_230 : decode cX7_cheapest 230 = .ok (.ifCond .ne 8, 3) := by decide +kernel
theorem dX7_cheapest_233 : decode cX7_cheapest 233 = .ok (.iload 4, 2) := by decide +kernel
theorem dX7_cheapest_235 : decode cX7_cheapest 235 = .ok (.goto 4, 3) := by decide +kernel
theorem dX7_cheapest_238 : decode cX7_cheapest 238 = .ok (.iload_n 3, 1) := by decide +kernel
theorem dX7_cheapest_239 : decode cX7_cheapest 239 = .ok (.ireturn, 1) := by decide +kernel
theorem dX7_keep_0 : decode cX7_keep 0 = .ok (.aload_n 0, 1) := by decide +kernel
theorem dX7_keep_1 : decode cX7_keep 1 = .ok (.iconst 0, 1) := by decide +kernel
theorem dX7_keep_2 : decode cX7_keep 2 = .ok (.putfield 75, 3) := by decide +kernel
theorem dX7_keep_5 : decode cX7_keep 5 = .ok (.iload_n 1, 1) := by decide +kernel
theorem dX7_keep_6 : decode cX7_keep 6 = .ok (.iconst 0, 1) := by decide +kernel
theorem dX7_keep_7 : decode cX7_keep 7 = .ok (.iconst 1, 1) := by decide +kernel
theorem dX7_keep_8 : decode cX7_keep 8 = .ok (.invokestatic 78, 3) := by decide +kernel
theorem dX7_keep_11 : decode cX7_keep 11 = .ok (.ifCond .ne 5, 3) := by decide +kernel
theorem dX7_keep_14 : decode cX7_keep 14 = .ok (.iconst (-1), 1) := by decide +kernel
theorem dX7_keep_15 : decode cX7_keep 15 = .ok (.ireturn, 1) := by decide +kernel
theorem dX7_keep_16 : decode cX7_keep 16 = .ok (.iconst 0, 1) := by decide +kernel
theorem dX7_keep_17 : decode cX7_keep 17 = .ok (.istore_n 2, 1) := by decide +kernel
theorem dX7_keep_18 : decode cX7_keep 18 = .ok (.iload_n 2, 1) := by decide +kernel
theorem dX7_keep_19 : decode cX7_keep 19 = .ok (.sipush 163, 3) := by decide +kernel
theorem dX7_keep_22 : decode cX7_keep 22 = .ok (.if_icmp .ge 27, 3) := by decide +kernel
theorem dX7_keep_25 : decode cX7_keep 25 = .ok (.aload_n 0, 1) := by decide +kernel
theorem dX7_keep_26 : decode cX7_keep 26 = .ok (.getfield 13, 3) := by decide +kernel
theorem dX7_keep_29 : decode cX7_keep 29 = .ok (.sipush 163, 3) := by decide +kernel
theorem dX7_keep_32 : decode cX7_keep 32 = .ok (.iload_n 1, 1) := by decide +kernel
theorem dX7_keep_33 : decode cX7_keep 33 = .ok (.imul, 1) := by decide +kernel
theorem dX7_keep_34 : decode cX7_keep 34 = .ok (.iload_n 2, 1) := by decide +kernel
theorem dX7_keep_35 : decode cX7_keep 35 = .ok (.iadd, 1) := by decide +kernel
theorem dX7_keep_36 : decode cX7_keep 36 = .ok (.aload_n 0, 1) := by decide +kernel
theorem dX7_keep_37 : decode cX7_keep 37 = .ok (.getfield 7, 3) := by decide +kernel
theorem dX7_keep_40 : decode cX7_keep 40 = .ok (.iload_n 2, 1) := by decide +kernel
theorem dX7_keep_41 : decode cX7_keep 41 = .ok (.iaload, 1) := by decide +kernel
theorem dX7_keep_42 : decode cX7_keep 42 = .ok (.iastore, 1) := by decide +kernel
theorem dX7_keep_43 : decode cX7_keep 43 = .ok (.iinc 2 1, 3) := by decide +kernel
theorem dX7_keep_46 : decode cX7_keep 46 = .ok (.goto (-28), 3) := by decide +kernel
theorem dX7_keep_49 : decode cX7_keep 49 = .ok (.aload_n 0, 1) := by decide +kernel
theorem dX7_keep_50 : decode cX7_keep 50 = .ok (.getfield 16, 3) := by decide +kernel
theorem dX7_keep_53 : decode cX7_keep 53 = .ok (.iload_n 1, 1) := by decide +kernel
theorem dX7_keep_54 : decode cX7_keep 54 = .ok (.iconst 1, 1) := by decide +kernel
theorem dX7_keep_55 : decode cX7_keep 55 = .ok (.bastore, 1) := by decide +kernel
theorem dX7_keep_56 : decode cX7_keep 56 = .ok (.aload_n 0, 1) := by decide +kernel
theorem dX7_keep_57 : decode cX7_keep 57 = .ok (.invokevirtual 140, 3) := by decide +kernel
theorem dX7_keep_60 : decode cX7_keep 60 = .ok (.ireturn, 1) := by decide +kernel
theorem dX7_back_0 : decode cX7_back 0 = .ok (.aload_n 0, 1) := by decide +kernel
theorem dX7_back_1 : decode cX7_back 1 = .ok (.iconst 0, 1) := by decide +kernel
theorem dX7_back_2 : decode cX7_back 2 = .ok (.putfield 75, 3) := by decide +kernel
theorem dX7_back_5 : decode cX7_back 5 = .ok (.iload_n 1, 1) := by decide +kernel
theorem dX7_back_6 : decode cX7_back 6 = .ok (.iconst 0, 1) := by decide +kernel
theorem dX7_back_7 : decode cX7_back 7 = .ok (.iconst 1, 1) := by decide +kernel
theorem dX7_back_8 : decode cX7_back 8 = .ok (.invokestatic 78, 3) := by decide +kernel
theorem dX7_back_11 : decode cX7_back 11 = .ok (.ifCond .ne 5, 3) := by decide +kernel
theorem dX7_back_14 : decode cX7_back 14 = .ok (.iconst (-1), 1) := by decide +kernel
theorem dX7_back_15 : decode cX7_back 15 = .ok (.ireturn, 1) := by decide +kernel
theorem dX7_back_16 : decode cX7_back 16 = .ok (.aload_n 0, 1) := by decide +kernel
theorem dX7_back_17 : decode cX7_back 17 = .ok (.getfield 16, 3) := by decide +kernel
theorem dX7_back_20 : decode cX7_back 20 = .ok (.iload_n 1, 1) := by decide +kernel
theorem dX7_back_21 : decode cX7_back 21 = .ok (.baload, 1) := by decide +kernel
theorem dX7_back_22 : decode cX7_back 22 = .ok (.ifCond .ne 6, 3) := by decide +kernel
theorem dX7_back_25 : decode cX7_back 25 = .ok (.bipush (-2), 2) := by decide +kernel
theorem dX7_back_27 : decode cX7_back 27 = .ok (.ireturn, 1) := by decide +kernel
theorem dX7_back_28 : decode cX7_back 28 = .ok (.iconst 0, 1) := by decide +kernel
theorem dX7_back_29 : decode cX7_back 29 = .ok (.istore_n 2, 1) := by decide +kernel
theorem dX7_back_30 : decode cX7_back 30 = .ok (.iload_n 2, 1) := by decide +kernel
theorem dX7_back_31 : decode cX7_back 31 = .ok (.sipush 163, 3) := by decide +kernel
theorem dX7_back_34 : decode cX7_back 34 = .ok (.if_icmp .ge 27, 3) := by decide +kernel
theorem dX7_back_37 : decode cX7_back 37 = .ok (.aload_n 0, 1) := by decide +kernel
theorem dX7_back_38 : decode cX7_back 38 = .ok (.getfield 7, 3) := by decide +kernel
theorem dX7_back_41 : decode cX7_back 41 = .ok (.iload_n 2, 1) := by decide +kernel
theorem dX7_back_42 : decode cX7_back 42 = .ok (.aload_n 0, 1) := by decide +kernel
theorem dX7_back_43 : decode cX7_back 43 = .ok (.getfield 13, 3) := by decide +kernel
theorem dX7_back_46 : decode cX7_back 46 = .ok (.sipush 163, 3) := by decide +kernel
theorem dX7_back_49 : decode cX7_back 49 = .ok (.iload_n 1, 1) := by decide +kernel
theorem dX7_back_50 : decode cX7_back 50 = .ok (.imul, 1) := by decide +kernel
theorem dX7_back_51 : decode cX7_back 51 = .ok (.iload_n 2, 1) := by decide +kernel
theorem dX7_back_52 : decode cX7_back 52 = .ok (.iadd, 1) := by decide +kernel
theorem dX7_back_53 : decode cX7_back 53 = .ok (.iaload, 1) := by decide +kernel
theorem dX7_back_54 : decode cX7_back 54 = .ok (.iastore, 1) := by decide +kernel
theorem dX7_back_55 : decode cX7_back 55 = .ok (.iinc 2 1, 3) := by decide +kernel
theorem dX7_back_58 : decode cX7_back 58 = .ok (.goto (-28), 3) := by decide +kernel
theorem dX7_back_61 : decode cX7_back 61 = .ok (.aload_n 0, 1) := by decide +kernel
theorem dX7_back_62 : decode cX7_back 62 = .ok (.invokevirtual 140, 3) := by decide +kernel
theorem dX7_back_65 : decode cX7_back 65 = .ok (.ireturn, 1) := by decide +kernel
theorem dX7_count_0 : decode cX7_count 0 = .ok (.aload_n 0, 1) := by decide +kernel
theorem dX7_count_1 : decode cX7_count 1 = .ok (.iconst 0, 1) := by decide +kernel
theorem dX7_count_2 : decode cX7_count 2 = .ok (.putfield 75, 3) := by decide +kernel
theorem dX7_count_5 : decode cX7_count 5 = .ok (.iconst 0, 1) := by decide +kernel
theorem dX7_count_6 : decode cX7_count 6 = .ok (.istore_n 2, 1) := by decide +kernel
theorem dX7_count_7 : decode cX7_count 7 = .ok (.iconst 0, 1) := by decide +kernel
theorem dX7_count_8 : decode cX7_count 8 = .ok (.istore_n 3, 1) := by decide +kernel
theorem dX7_count_9 : decode cX7_count 9 = .ok (.iload_n 3, 1) := by decide +kernel
theorem dX7_count_10 : decode cX7_count 10 = .ok (.bipush 48, 2) := by decide +kernel
theorem dX7_count_12 : decode cX7_count 12 = .ok (.if_icmp .ge 21, 3) := by decide +kernel
theorem dX7_count_15 : decode cX7_count 15 = .ok (.iload_n 2, 1) := by decide +kernel
theorem dX7_count_16 : decode cX7_count 16 = .ok (.aload_n 0, 1) := by decide +kernel
theorem dX7_count_17 : decode cX7_count 17 = .ok (.getfield 7, 3) := by decide +kernel
theorem dX7_count_20 : decode cX7_count 20 = .ok (.bipush 96, 2) := by decide +kernel
theorem dX7_count_22 : decode cX7_count 22 = .ok (.iload_n 3, 1) := by decide +kernel
theorem dX7_count_23 : decode cX7_count 23 = .ok (.iadd, 1) := by decide +kernel
theorem dX7_count_24 : decode cX7_count 24 = .ok (.iaload, 1) := by decide +kernel
theorem dX7_count_25 : decode cX7_count 25 = .ok (.iadd, 1) := by decide +kernel
theorem dX7_count_26 : decode cX7_count 26 = .ok (.istore_n 2, 1) := by decide +kernel
theorem dX7_count_27 : decode cX7_count 27 = .ok (.iinc 3 1, 3) := by decide +kernel
theorem dX7_count_30 : decode cX7_count 30 = .ok (.goto (-21), 3) := by decide +kernel
theorem dX7_count_33 : decode cX7_count 33 = .ok (.iload_n 1, 1) := by decide +kernel
theorem dX7_count_34 : decode cX7_count 34 = .ok (.ifCond .ne 10, 3) := by decide +kernel
theorem dX7_count_37 : decode cX7_count 37 = .ok (.aload_n 0, 1) := by decide +kernel
theorem dX7_count_38 : decode cX7_count 38 = .ok (.invokevirtual 140, 3) := by decide +kernel
theorem dX7_count_41 : decode cX7_count 41 = .ok (.goto 91, 3) := by decide +kernel
theorem dX7_count_44 : decode cX7_count 44 = .ok (.iload_n 1, 1) := by decide +kernel
theorem dX7_count_45 : decode cX7_count 45 = .ok (.iconst 1, 1) := by decide +kernel
theorem dX7_count_46 : decode cX7_count 46 = .ok (.if_icmp .ne 7, 3) := by decide +kernel
theorem dX7_count_49 : decode cX7_count 49 = .ok (.iload_n 2, 1) := by decide +kernel
theorem dX7_count_50 : decode cX7_count 50 = .ok (.goto 82, 3) := by decide +kernel
theorem dX7_count_53 : decode cX7_count 53 = .ok (.iload_n 1, 1) := by decide +kernel
theorem dX7_count_54 : decode cX7_count 54 = .ok (.iconst 2, 1) := by decide +kernel
theorem dX7_count_55 : decode cX7_count 55 = .ok (.if_icmp .ne 10, 3) := by decide +kernel
theorem dX7_count_58 : decode cX7_count 58 = .ok (.aload_n 0, 1) := by decide +kernel
theorem dX7_count_59 : decode cX7_count 59 = .ok (.invokevirtual 179, 3) := by decide +kernel
theorem dX7_count_62 : decode cX7_count 62 = .ok (.goto 70, 3) := by decide +kernel
theorem dX7_count_65 : decode cX7_count 65 = .ok (.iload_n 1, 1) := by decide +kernel
theorem dX7_count_66 : decode cX7_count 66 = .ok (.iconst 3, 1) := by decide +kernel
theorem dX7_count_67 : decode cX7_count 67 = .ok (.if_icmp .ne 10, 3) := by decide +kernel
theorem dX7_count_70 : decode cX7_count 70 = .ok (.aload_n 0, 1) := by decide +kernel
theorem dX7_count_71 : decode cX7_count 71 = .ok (.getfield 242, 3) := by decide +kernel
theorem dX7_count_74 : decode cX7_count 74 = .ok (.goto 58, 3) := by decide +kernel
theorem dX7_count_77 : decode cX7_count 77 = .ok (.iload_n 1, 1) := by decide +kernel
theorem dX7_count_78 : decode cX7_count 78 = .ok (.iconst 4, 1) := by decide +kernel
theorem dX7_count_79 : decode cX7_count 79 = .ok (.if_icmp .ne 10, 3) := by decide +kernel
theorem dX7_count_82 : decode cX7_count 82 = .ok (.aload_n 0, 1) := by decide +kernel
theorem dX7_count_83 : decode cX7_count 83 = .ok (.getfield 245, 3) := by decide +kernel
theorem dX7_count_86 : decode cX7_count 86 = .ok (.goto 46, 3) := by decide +kernel
theorem dX7_count_89 : decode cX7_count 89 = .ok (.iload_n 1, 1) := by decide +kernel
theorem dX7_count_90 : decode cX7_count 90 = .ok (.iconst 5, 1) := by decide +kernel
theorem dX7_count_91 : decode cX7_count 91 = .ok (.if_icmp .ne 10, 3) := by decide +kernel
theorem dX7_count_94 : decode cX7_count 94 = .ok (.aload_n 0, 1) := by decide +kernel
theorem dX7_count_95 : decode cX7_count 95 = .ok (.getfield 251, 3) := by decide +kernel
theorem dX7_count_98 : decode cX7_count 98 = .ok (.goto 34, 3) := by decide +kernel
theorem dX7_count_101 : decode cX7_count 101 = .ok (.iload_n 1, 1) := by decide +kernel
theorem dX7_count_102 : decode cX7_count 102 = .ok (.bipush 6, 2) := by decide +kernel
theorem dX7_count_104 : decode cX7_count 104 = .ok (.if_icmp .ne 14, 3) := by decide +kernel
theorem dX7_count_107 : decode cX7_count 107 = .ok (.aload_n 0, 1) := by decide +kernel
theorem dX7_count_108 : decode cX7_count 108 = .ok (.getfield 7, 3) := by decide +kernel
theorem dX7_count_111 : decode cX7_count 111 = .ok (.sipush 162, 3) := by decide +kernel
theorem dX7_count_114 : decode cX7_count 114 = .ok (.iaload, 1) := by decide +kernel
theorem dX7_count_115 : decode cX7_count 115 = .ok (.goto 17, 3) := by decide +kernel
theorem dX7_count_118 : decode cX7_count 118 = .ok (.iload_n 1, 1) := by decide +kernel
theorem dX7_count_119 : decode cX7_count 119 = .ok (.bipush 7, 2) := by decide +kernel
theorem dX7_count_121 : decode cX7_count 121 = .ok (.if_icmp .ne 10, 3) := by decide +kernel
theorem dX7_count_124 : decode cX7_count 124 = .ok (.aload_n 0, 1) := by decide +kernel
theorem dX7_count_125 : decode cX7_count 125 = .ok (.getfield 90, 3) := by decide +kernel
theorem dX7_count_128 : decode cX7_count 128 = .ok (.goto 4, 3) := by decide +kernel
theorem dX7_count_131 : decode cX7_count 131 = .ok (.iconst (-1), 1) := by decide +kernel
theorem dX7_count_132 : decode cX7_count 132 = .ok (.ireturn, 1) := by decide +kernel
theorem dX7_trace_0 : decode cX7_trace 0 = .ok (.aload_n 0, 1) := by decide +kernel
theorem dX7_trace_1 : decode cX7_trace 1 = .ok (.iconst 0, 1) := by decide +kernel
theorem dX7_trace_2 : decode cX7_trace 2 = .ok (.putfield 75, 3) := by decide +kernel
theorem dX7_trace_5 : decode cX7_trace 5 = .ok (.aload_n 0, 1) := by decide +kernel
theorem dX7_trace_6 : decode cX7_trace 6 = .ok (.getfield 148, 3) := by decide +kernel
theorem dX7_trace_9 : decode cX7_trace 9 = .ok (.lreturn, 1) := by decide +kernel
