theorem dX4_init_0 : decode cX4_init 0 = .ok (.aload_n 0, 1) := by decide +kernel
theorem dX4_init_1 : decode cX4_init 1 = .ok (.invokespecial 3, 3) := by decide +kernel
theorem dX4_init_4 : decode cX4_init 4 = .ok (.aload_n 0, 1) := by decide +kernel
theorem dX4_init_5 : decode cX4_init 5 = .ok (.bipush 8, 2) := by decide +kernel
theorem dX4_init_7 : decode cX4_init 7 = .ok (.newarray .int, 2) := by decide +kernel
theorem dX4_init_9 : decode cX4_init 9 = .ok (.putfield 9, 3) := by decide +kernel
theorem dX4_init_12 : decode cX4_init 12 = .ok (.aload_n 0, 1) := by decide +kernel
theorem dX4_init_13 : decode cX4_init 13 = .ok (.bipush 8, 2) := by decide +kernel
theorem dX4_init_15 : decode cX4_init 15 = .ok (.newarray .int, 2) := by decide +kernel
theorem dX4_init_17 : decode cX4_init 17 = .ok (.putfield 15, 3) := by decide +kernel
theorem dX4_init_20 : decode cX4_init 20 = .ok (.aload_n 0, 1) := by decide +kernel
theorem dX4_init_21 : decode cX4_init 21 = .ok (.bipush 8, 2) := by decide +kernel
theorem dX4_init_23 : decode cX4_init 23 = .ok (.newarray .int, 2) := by decide +kernel
theorem dX4_init_25 : decode cX4_init 25 = .ok (.putfield 18, 3) := by decide +kernel
theorem dX4_init_28 : decode cX4_init 28 = .ok (.aload_n 0, 1) := by decide +kernel
theorem dX4_init_29 : decode cX4_init 29 = .ok (.bipush 8, 2) := by decide +kernel
theorem dX4_init_31 : decode cX4_init 31 = .ok (.newarray .int, 2) := by decide +kernel
theorem dX4_init_33 : decode cX4_init 33 = .ok (.putfield 21, 3) := by decide +kernel
theorem dX4_init_36 : decode cX4_init 36 = .ok (.aload_n 0, 1) := by decide +kernel
theorem dX4_init_37 : decode cX4_init 37 = .ok (.bipush 48, 2) := by decide +kernel
theorem dX4_init_39 : decode cX4_init 39 = .ok (.newarray .int, 2) := by decide +kernel
theorem dX4_init_41 : decode cX4_init 41 = .ok (.putfield 24, 3) := by decide +kernel
theorem dX4_init_44 : decode cX4_init 44 = .ok (.aload_n 0, 1) := by decide +kernel
theorem dX4_init_45 : decode cX4_init 45 = .ok (.bipush 48, 2) := by decide +kernel
theorem dX4_init_47 : decode cX4_init 47 = .ok (.newarray .int, 2) := by decide +kernel
theorem dX4_init_49 : decode cX4_init 49 = .ok (.putfield 27, 3) := by decide +kernel
theorem dX4_init_52 : decode cX4_init 52 = .ok (.aload_n 0, 1) := by decide +kernel
theorem dX4_init_53 : decode cX4_init 53 = .ok (.iconst 0, 1) := by decide +kernel
theorem dX4_init_54 : decode cX4_init 54 = .ok (.putfield 30, 3) := by decide +kernel
theorem dX4_init_57 : decode cX4_init 57 = .ok (.aload_n 0, 1) := by decide +kernel
theorem dX4_init_58 : decode cX4_init 58 = .ok (.iconst 0, 1) := by decide +kernel
theorem dX4_init_59 : decode cX4_init 59 = .ok (.putfield 34, 3) := by decide +kernel
theorem dX4_init_62 : decode cX4_init 62 = .ok (.aload_n 0, 1) := by decide +kernel
theorem dX4_init_63 : decode cX4_init 63 = .ok (.bipush 100, 2) := by decide +kernel
theorem dX4_init_65 : decode cX4_init 65 = .ok (.putfield 37, 3) := by decide +kernel
theorem dX4_init_68 : decode cX4_init 68 = .ok (.return_, 1) := by decide +kernel
theorem dX4_addGauge_0 : decode cX4_addGauge 0 = .ok (.aload_n 0, 1) := by decide +kernel
theorem dX4_addGauge_1 : decode cX4_addGauge 1 = .ok (.getfield 30, 3) := by decide +kernel
theorem dX4_addGauge_4 : decode cX4_addGauge 4 = .ok (.bipush 8, 2) := by decide +kernel
theorem dX4_addGauge_6 : decode cX4_addGauge 6 = .ok (.if_icmp .lt 6, 3) := by decide +kernel
theorem dX4_addGauge_9 : decode cX4_addGauge 9 = .ok (.bipush (-3), 2) := by decide +kernel
theorem dX4_addGauge_11 : decode cX4_addGauge 11 = .ok (.ireturn, 1) := by decide +kernel
theorem dX4_addGauge_12 : decode cX4_addGauge 12 = .ok (.aload_n 0, 1) := by decide +kernel
theorem dX4_addGauge_13 : decode cX4_addGauge 13 = .ok (.getfield 9, 3) := by decide +kernel
theorem dX4_addGauge_16 : decode cX4_addGauge 16 = .ok (.aload_n 0, 1) := by decide +kernel
theorem dX4_addGauge_17 : decode cX4_addGauge 17 = .ok (.getfield 30, 3) := by decide +kernel
theorem dX4_addGauge_20 : decode cX4_addGauge 20 = .ok (.iload_n 1, 1) := by decide +kernel
theorem dX4_addGauge_21 : decode cX4_addGauge 21 = .ok (.iastore, 1) := by decide +kernel
theorem dX4_addGauge_22 : decode cX4_addGauge 22 = .ok (.aload_n 0, 1) := by decide +kernel
theorem dX4_addGauge_23 : decode cX4_addGauge 23 = .ok (.getfield 15, 3) := by decide +kernel
theorem dX4_addGauge_26 : decode cX4_addGauge 26 = .ok (.aload_n 0, 1) := by decide +kernel
theorem dX4_addGauge_27 : decode cX4_addGauge 27 = .ok (.getfield 30, 3) := by decide +kernel
theorem dX4_addGauge_30 : decode cX4_addGauge 30 = .ok (.iload_n 2, 1) := by decide +kernel
theorem dX4_addGauge_31 : decode cX4_addGauge 31 = .ok (.iastore, 1) := by decide +kernel
theorem dX4_addGauge_32 : decode cX4_addGauge 32 = .ok (.aload_n 0, 1) := by decide +kernel
theorem dX4_addGauge_33 : decode cX4_addGauge 33 = .ok (.dup, 1) := by decide +kernel
theorem dX4_addGauge_34 : decode cX4_addGauge 34 = .ok (.getfield 30, 3) := by decide +kernel
theorem dX4_addGauge_37 : decode cX4_addGauge 37 = .ok (.iconst 1, 1) := by decide +kernel
theorem dX4_addGauge_38 : decode cX4_addGauge 38 = .ok (.iadd, 1) := by decide +kernel
theorem dX4_addGauge_39 : decode cX4_addGauge 39 = .ok (.putfield 30, 3) := by decide +kernel
theorem dX4_addGauge_42 : decode cX4_addGauge 42 = .ok (.aload_n 0, 1) := by decide +kernel
theorem dX4_addGauge_43 : decode cX4_addGauge 43 = .ok (.getfield 30, 3) := by decide +kernel
theorem dX4_addGauge_46 : decode cX4_addGauge 46 = .ok (.iconst 1, 1) := by decide +kernel
theorem dX4_addGauge_47 : decode cX4_addGauge 47 = .ok (.isub, 1) := by decide +kernel
theorem dX4_addGauge_48 : decode cX4_addGauge 48 = .ok (.ireturn, 1) := by decide +kernel
theorem dX4_addCause_0 : decode cX4_addCause 0 = .ok (.aload_n 0, 1) := by decide +kernel
theorem dX4_addCause_1 : decode cX4_addCause 1 = .ok (.getfield 34, 3) := by decide +kernel
theorem dX4_addCause_4 : decode cX4_addCause 4 = .ok (.bipush 8, 2) := by decide +kernel
theorem dX4_addCause_6 : decode cX4_addCause 6 = .ok (.if_icmp .lt 6, 3) := by decide +kernel
theorem dX4_addCause_9 : decode cX4_addCause 9 = .ok (.bipush (-3), 2) := by decide +kernel
theorem dX4_addCause_11 : decode cX4_addCause 11 = .ok (.ireturn, 1) := by decide +kernel
theorem dX4_addCause_12 : decode cX4_addCause 12 = .ok (.aload_n 0, 1) := by decide +kernel
theorem dX4_addCause_13 : decode cX4_addCause 13 = .ok (.getfield 18, 3) := by decide +kernel
theorem dX4_addCause_16 : decode cX4_addCause 16 = .ok (.aload_n 0, 1) := by decide +kernel
theorem dX4_addCause_17 : decode cX4_addCause 17 = .ok (.getfield 34, 3) := by decide +kernel
theorem dX4_addCause_20 : decode cX4_addCause 20 = .ok (.iload_n 1, 1) := by decide +kernel
theorem dX4_addCause_21 : decode cX4_addCause 21 = .ok (.iastore, 1) := by decide +kernel
theorem dX4_addCause_22 : decode cX4_addCause 22 = .ok (.aload_n 0, 1) := by decide +kernel
theorem dX4_addCause_23 : decode cX4_addCause 23 = .ok (.getfield 21, 3) := by decide +kernel
theorem dX4_addCause_26 : decode cX4_addCause 26 = .ok (.aload_n 0, 1) := by decide +kernel
theorem dX4_addCause_27 : decode cX4_addCause 27 = .ok (.getfield 34, 3) := by decide +kernel
theorem dX4_addCause_30 : decode cX4_addCause 30 = .ok (.iload_n 2, 1) := by decide +kernel
theorem dX4_addCause_31 : decode cX4_addCause 31 = .ok (.iastore, 1) := by decide +kernel
theorem dX4_addCause_32 : decode cX4_addCause 32 = .ok (.aload_n 0, 1) := by decide +kernel
theorem dX4_addCause_33 : decode cX4_addCause 33 = .ok (.dup, 1) := by decide +kernel
theorem dX4_addCause_34 : decode cX4_addCause 34 = .ok (.getfield 34, 3) := by decide +kernel
theorem dX4_addCause_37 : decode cX4_addCause 37 = .ok (.iconst 1, 1) := by decide +kernel
theorem dX4_addCause_38 : decode cX4_addCause 38 = .ok (.iadd, 1) := by decide +kernel
theorem dX4_addCause_39 : decode cX4_addCause 39 = .ok (.putfield 34, 3) := by decide +kernel
theorem dX4_addCause_42 : decode cX4_addCause 42 = .ok (.aload_n 0, 1) := by decide +kernel
theorem dX4_addCause_43 : decode cX4_addCause 43 = .ok (.getfield 34, 3) := by decide +kernel
theorem dX4_addCause_46 : decode cX4_addCause 46 = .ok (.iconst 1, 1) := by decide +kernel
theorem dX4_addCause_47 : decode cX4_addCause 47 = .ok (.isub, 1) := by decide +kernel
theorem dX4_addCause_48 : decode cX4_addCause 48 = .ok (.ireturn, 1) := by decide +kernel
theorem dX4_tryCauses_0 : decode cX4_tryCauses 0 = .ok (.iconst 0, 1) := by decide +kernel
theorem dX4_tryCauses_1 : decode cX4_tryCauses 1 = .ok (.istore_n 3, 1) := by decide +kernel
theorem dX4_tryCauses_2 : decode cX4_tryCauses 2 = .ok (.aload_n 0, 1) := by decide +kernel
theorem dX4_tryCauses_3 : decode cX4_tryCauses 3 = .ok (.getfield 24, 3) := by decide +kernel
theorem dX4_tryCauses_6 : decode cX4_tryCauses 6 = .ok (.sipush 7000, 3) := by decide +kernel
theorem dX4_tryCauses_9 : decode cX4_tryCauses 9 = .ok (.invokestatic 40, 3) := by decide +kernel
theorem dX4_tryCauses_12 : decode cX4_tryCauses 12 = .ok (.aload_n 0, 1) := by decide +kernel
theorem dX4_tryCauses_13 : decode cX4_tryCauses 13 = .ok (.getfield 27, 3) := by decide +kernel
theorem dX4_tryCauses_16 : decode cX4_tryCauses 16 = .ok (.iconst 0, 1) := by decide +kernel
theorem dX4_tryCauses_17 : decode cX4_tryCauses 17 = .ok (.invokestatic 40, 3) := by decide +kernel
theorem dX4_tryCauses_20 : decode cX4_tryCauses 20 = .ok (.iconst 0, 1) := by decide +kernel
theorem dX4_tryCauses_21 : decode cX4_tryCauses 21 = .ok (.istore 4, 2) := by decide +kernel
theorem dX4_tryCauses_23 : decode cX4_tryCauses 23 = .ok (.iload 4, 2) := by decide +kernel
theorem dX4_tryCauses_25 : decode cX4_tryCauses 25 = .ok (.aload_n 0, 1) := by decide +kernel
theorem dX4_tryCauses_26 : decode cX4_tryCauses 26 = .ok (.getfield 34, 3) := by decide +kernel
theorem dX4_tryCauses_29 : decode cX4_tryCauses 29 = .ok (.if_icmp .ge 60, 3) := by decide +kernel
theorem dX4_tryCauses_32 : decode cX4_tryCauses 32 = .ok (.aload_n 2, 1) := by decide +kernel
theorem dX4_tryCauses_33 : decode cX4_tryCauses 33 = .ok (.aload_n 1, 1) := by decide +kernel
theorem dX4_tryCauses_34 : decode cX4_tryCauses 34 = .ok (.invokevirtual 46, 3) := by decide +kernel
theorem dX4_tryCauses_37 : decode cX4_tryCauses 37 = .ok (.aload_n 2, 1) := by decide +kernel
theorem dX4_tryCauses_38 : decode cX4_tryCauses 38 = .ok (.getfield 52, 3) := by decide +kernel
theorem dX4_tryCauses_41 : decode cX4_tryCauses 41 = .ok (.aload_n 0, 1) := by decide +kernel
theorem dX4_tryCauses_42 : decode cX4_tryCauses 42 = .ok (.getfield 18, 3) := by decide +kernel
theorem dX4_tryCauses_45 : decode cX4_tryCauses 45 = .ok (.iload 4, 2) := by decide +kernel
theorem dX4_tryCauses_47 : decode cX4_tryCauses 47 = .ok (.iaload, 1) := by decide +kernel
theorem dX4_tryCauses_48 : decode cX4_tryCauses 48 = .ok (.aload_n 0, 1) := by decide +kernel
theorem dX4_tryCauses_49 : decode cX4_tryCauses 49 = .ok (.getfield 21, 3) := by decide +kernel
theorem dX4_tryCauses_52 : decode cX4_tryCauses 52 = .ok (.iload 4, 2) := by decide +kernel
theorem dX4_tryCauses_54 : decode cX4_tryCauses 54 = .ok (.iaload, 1) := by decide +kernel
theorem dX4_tryCauses_55 : decode cX4_tryCauses 55 = .ok (.iastore, 1) := by decide +kernel
theorem dX4_tryCauses_56 : decode cX4_tryCauses 56 = .ok (.aload_n 2, 1) := by decide +kernel
theorem dX4_tryCauses_57 : decode cX4_tryCauses 57 = .ok (.invokevirtual 55, 3) := by decide +kernel
theorem dX4_tryCauses_60 : decode cX4_tryCauses 60 = .ok (.aload_n 0, 1) := by decide +kernel
theorem dX4_tryCauses_61 : decode cX4_tryCauses 61 = .ok (.aload_n 2, 1) := by decide +kernel
theorem dX4_tryCauses_62 : decode cX4_tryCauses 62 = .ok (.invokevirtual 58, 3) := by decide +kernel
theorem dX4_tryCauses_65 : decode cX4_tryCauses 65 = .ok (.ifCond .ne 6, 3) := by decide +kernel
theorem dX4_tryCauses_68 : decode cX4_tryCauses 68 = .ok (.goto 15, 3) := by decide +kernel
theorem dX4_tryCauses_71 : decode cX4_tryCauses 71 = .ok (.iload_n 3, 1) := by decide +kernel
theorem dX4_tryCauses_72 : decode cX4_tryCauses 72 = .ok (.iconst 1, 1) := by decide +kernel
theorem dX4_tryCauses_73 : decode cX4_tryCauses 73 = .ok (.iload 4, 2) := by decide +kernel
theorem dX4_tryCauses_75 : decode cX4_tryCauses 75 = .ok (.ishl, 1) := by decide +kernel
theorem dX4_tryCauses_76 : decode cX4_tryCauses 76 = .ok (.ior, 1) := by decide +kernel
theorem dX4_tryCauses_77 : decode cX4_tryCauses 77 = .ok (.istore_n 3, 1) := by decide +kernel
theorem dX4_tryCauses_78 : decode cX4_tryCauses 78 = .ok (.aload_n 0, 1) := by decide +kernel
theorem dX4_tryCauses_79 : decode cX4_tryCauses 79 = .ok (.aload_n 2, 1) := by decide +kernel
theorem dX4_tryCauses_80 : decode cX4_tryCauses 80 = .ok (.invokevirtual 62, 3) := by decide +kernel
theorem dX4_tryCauses_83 : decode cX4_tryCauses 83 = .ok (.iinc 4 1, 3) := by decide +kernel
theorem dX4_tryCauses_86 : decode cX4_tryCauses 86 = .ok (.goto (-63), 3) := by decide +kernel
theorem dX4_tryCauses_89 : decode cX4_tryCauses 89 = .ok (.iload_n 3, 1) := by decide +kernel
theorem dX4_tryCauses_90 : decode cX4_tryCauses 90 = .ok (.ireturn, 1) := by decide +kernel
theorem dX4_allGaugesAgree_0 : decode cX4_allGaugesAgree 0 = .ok (.iconst 0, 1) := by decide +kernel
theorem dX4_allGaugesAgree_1 : decode cX4_allGaugesAgree 1 = .ok (.istore_n 2, 1) := by decide +kernel
theorem dX4_allGaugesAgree_2 : decode cX4_allGaugesAgree 2 = .ok (.iload_n 2, 1) := by decide +kernel
theorem dX4_allGaugesAgree_3 : decode cX4_allGaugesAgree 3 = .ok (.aload_n 0, 1) := by decide +kernel
theorem dX4_allGaugesAgree_4 : decode cX4_allGaugesAgree 4 = .ok (.getfield 30, 3) := by decide +kernel
theorem dX4_allGaugesAgree_7 : decode cX4_allGaugesAgree 7 = .ok (.if_icmp .ge 52, 3) := by decide +kernel
theorem dX4_allGaugesAgree_10 : decode cX4_allGaugesAgree 10 = .ok (.aload_n 0, 1) := by decide +kernel
theorem dX4_allGaugesAgree_11 : decode cX4_allGaugesAgree 11 = .ok (.getfield 9, 3) := by decide +kernel
theorem dX4_allGaugesAgree_14 : decode cX4_allGaugesAgree 14 = .ok (.iload_n 2, 1) := by decide +kernel
theorem dX4_allGaugesAgree_15 : decode cX4_allGaugesAgree 15 = .ok (.iaload, 1) := by decide +kernel
theorem dX4_allGaugesAgree_16 : decode cX4_allGaugesAgree 16 = .ok (.istore_n 3, 1) := by decide +kernel
theorem dX4_allGaugesAgree_17 : decode cX4_allGaugesAgree 17 = .ok (.aload_n 1, 1) := by decide +kernel
theorem dX4_allGaugesAgree_18 : decode cX4_allGaugesAgree 18 = .ok (.iload_n 3, 1) := by decide +kernel
theorem dX4_allGaugesAgree_19 : decode cX4_allGaugesAgree 19 = .ok (.invokevirtual 65, 3) := by decide +kernel
theorem dX4_allGaugesAgree_22 : decode cX4_allGaugesAgree 22 = .ok (.ifCond .ne 6, 3) := by decide +kernel
theorem dX4_allGaugesAgree_25 : decode cX4_allGaugesAgree 25 = .ok (.goto 28, 3) := by decide +kernel
theorem dX4_allGaugesAgree_28 : decode cX4_allGaugesAgree 28 = .ok (.aload_n 1, 1) := by decide +kernel
theorem dX4_allGaugesAgree_29 : decode cX4_allGaugesAgree 29 = .ok (.getfield 69, 3) := by decide +kernel
theorem dX4_allGaugesAgree_32 : decode cX4_allGaugesAgree 32 = .ok (.iload_n 3, 1) := by decide +kernel
theorem dX4_allGaugesAgree_33 : decode cX4_allGaugesAgree 33 = .ok (.iaload, 1) := by decide +kernel
theorem dX4_allGaugesAgree_34 : decode cX4_allGaugesAgree 34 = .ok (.aload_n 0, 1) := by decide +kernel
theorem dX4_allGaugesAgree_35 : decode cX4_allGaugesAgree 35 = .ok (.getfield 15, 3) := by decide +kernel
theorem dX4_allGaugesAgree_38 : decode cX4_allGaugesAgree 38 = .ok (.iload_n 2, 1) := by decide +kernel
theorem dX4_allGaugesAgree_39 : decode cX4_allGaugesAgree 39 = .ok (.iaload, 1) := by decide +kernel
theorem dX4_allGaugesAgree_40 : decode cX4_allGaugesAgree 40 = .ok (.isub, 1) := by decide +kernel
theorem dX4_allGaugesAgree_41 : decode cX4_allGaugesAgree 41 = .ok (.invokestatic 72, 3) := by decide +kernel
theorem dX4_allGaugesAgree_44 : decode cX4_allGaugesAgree 44 = .ok (.aload_n 0, 1) := by decide +kernel
theorem dX4_allGaugesAgree_45 : decode cX4_allGaugesAgree 45 = .ok (.getfield 37, 3) := by decide +kernel
theorem dX4_allGaugesAgree_48 : decode cX4_allGaugesAgree 48 = .ok (.if_icmp .le 5, 3) := by decide +kernel
theorem dX4_allGaugesAgree_51 : decode cX4_allGaugesAgree 51 = .ok (.iconst 0, 1) := by decide +kernel
theorem dX4_allGaugesAgree_52 : decode cX4_allGaugesAgree 52 = .ok (.ireturn, 1) := by decide +kernel
theorem dX4_allGaugesAgree_53 : decode cX4_allGaugesAgree 53 = .ok (.iinc 2 1, 3) := by decide +kernel
theorem dX4_allGaugesAgree_56 : decode cX4_allGaugesAgree 56 = .ok (.goto (-54), 3) := by decide +kernel
theorem dX4_allGaugesAgree_59 : decode cX4_allGaugesAgree 59 = .ok (.iconst 1, 1) := by decide +kernel
theorem dX4_allGaugesAgree_60 : decode cX4_allGaugesAgree 60 = .ok (.ireturn, 1) := by decide +kernel
theorem dX4_noteHeads_0 : decode cX4_noteHeads 0 = .ok (.iconst 0, 1) := by decide +kernel
theorem dX4_noteHeads_1 : decode cX4_noteHeads 1 = .ok (.istore_n 2, 1) := by decide +kernel
theorem dX4_noteHeads_2 : decode cX4_noteHeads 2 = .ok (.iload_n 2, 1) := by decide +kernel
theorem dX4_noteHeads_3 : decode cX4_noteHeads 3 = .ok (.bipush 48, 2) := by decide +kernel
theorem dX4_noteHeads_5 : decode cX4_noteHeads 5 = .ok (.if_icmp .ge 51, 3) := by decide +kernel
theorem dX4_noteHeads_8 : decode cX4_noteHeads 8 = .ok (.aload_n 0, 1) := by decide +kernel
theorem dX4_noteHeads_9 : decode cX4_noteHeads 9 = .ok (.getfield 24, 3) := by decide +kernel
theorem dX4_noteHeads_12 : decode cX4_noteHeads 12 = .ok (.iload_n 2, 1) := by decide +kernel
theorem dX4_noteHeads_13 : decode cX4_noteHeads 13 = .ok (.aload_n 0, 1) := by decide +kernel
theorem dX4_noteHeads_14 : decode cX4_noteHeads 14 = .ok (.getfield 24, 3) := by decide +kernel
theorem dX4_noteHeads_17 : decode cX4_noteHeads 17 = .ok (.iload_n 2, 1) := by decide +kernel
theorem dX4_noteHeads_18 : decode cX4_noteHeads 18 = .ok (.iaload, 1) := by decide +kernel
theorem dX4_noteHeads_19 : decode cX4_noteHeads 19 = .ok (.aload_n 1, 1) := by decide +kernel
theorem dX4_noteHeads_20 : decode cX4_noteHeads 20 = .ok (.getfield 69, 3) := by decide +kernel
theorem dX4_noteHeads_23 : decode cX4_noteHeads 23 = .ok (.iload_n 2, 1) := by decide +kernel
theorem dX4_noteHeads_24 : decode cX4_noteHeads 24 = .ok (.iaload, 1) := by decide +kernel
theorem dX4_noteHeads_25 : decode cX4_noteHeads 25 = .ok (.invokestatic 78, 3) := by decide +kernel
theorem dX4_noteHeads_28 : decode cX4_noteHeads 28 = .ok (.iastore, 1) := by decide +kernel
theorem dX4_noteHeads_29 : decode cX4_noteHeads 29 = .ok (.aload_n 0, 1) := by decide +kernel
theorem dX4_noteHeads_30 : decode cX4_noteHeads 30 = .ok (.getfield 27, 3) := by decide +kernel
theorem dX4_noteHeads_33 : decode cX4_noteHeads 33 = .ok (.iload_n 2, 1) := by decide +kernel
theorem dX4_noteHeads_34 : decode cX4_noteHeads 34 = .ok (.aload_n 0, 1) := by decide +kernel
theorem dX4_noteHeads_35 : decode cX4_noteHeads 35 = .ok (.getfield 27, 3) := by decide +kernel
theorem dX4_noteHeads_38 : decode cX4_noteHeads 38 = .ok (.iload_n 2, 1) := by decide +kernel
theorem dX4_noteHeads_39 : decode cX4_noteHeads 39 = .ok (.iaload, 1) := by decide +kernel
theorem dX4_noteHeads_40 : decode cX4_noteHeads 40 = .ok (.aload_n 1, 1) := by decide +kernel
theorem dX4_noteHeads_41 : decode cX4_noteHeads 41 = .ok (.getfield 69, 3) := by decide +kernel
theorem dX4_noteHeads_44 : decode cX4_noteHeads 44 = .ok (.iload_n 2, 1) := by decide +kernel
theorem dX4_noteHeads_45 : decode cX4_noteHeads 45 = .ok (.iaload, 1) := by decide +kernel
theorem dX4_noteHeads_46 : decode cX4_noteHeads 46 = .ok (.invokestatic 82, 3) := by decide +kernel
theorem dX4_noteHeads_49 : decode cX4_noteHeads 49 = .ok (.iastore, 1) := by decide +kernel
theorem dX4_noteHeads_50 : decode cX4_noteHeads 50 = .ok (.iinc 2 1, 3) := by decide +kernel
theorem dX4_noteHeads_53 : decode cX4_noteHeads 53 = .ok (.goto (-51), 3) := by decide +kernel
theorem dX4_noteHeads_56 : decode cX4_noteHeads 56 = .ok (.return_, 1) := by decide +kernel
theorem dX4_apartAt_0 : decode cX4_apartAt 0 = .ok (.aload_n 0, 1) := by decide +kernel
theorem dX4_apartAt_1 : decode cX4_apartAt 1 = .ok (.getfield 27, 3) := by decide +kernel
theorem dX4_apartAt_4 : decode cX4_apartAt 4 = .ok (.iload_n 1, 1) := by decide +kernel
theorem dX4_apartAt_5 : decode cX4_apartAt 5 = .ok (.iaload, 1) := by decide +kernel
theorem dX4_apartAt_6 : decode cX4_apartAt 6 = .ok (.aload_n 0, 1) := by decide +kernel
theorem dX4_apartAt_7 : decode cX4_apartAt 7 = .ok (.getfield 24, 3) := by decide +kernel
theorem dX4_apartAt_10 : decode cX4_apartAt 10 = .ok (.iload_n 1, 1) := by decide +kernel
theorem dX4_apartAt_11 : decode cX4_apartAt 11 = .ok (.iaload, 1) := by decide +kernel
theorem dX4_apartAt_12 : decode cX4_apartAt 12 = .ok (.isub, 1) := by decide +kernel
theorem dX4_apartAt_13 : decode cX4_apartAt 13 = .ok (.ireturn, 1) := by decide +kernel
theorem dX4_placeMostApart_0 : decode cX4_placeMostApart 0 = .ok (.bipush (-9), 2) := by decide +kernel
theorem dX4_placeMostApart_2 : decode cX4_placeMostApart 2 = .ok (.istore_n 2, 1) := by decide +kernel
theorem dX4_placeMostApart_3 : decode cX4_placeMostApart 3 = .ok (.iconst 0, 1) := by decide +kernel
theorem dX4_placeMostApart_4 : decode cX4_placeMostApart 4 = .ok (.istore_n 3, 1) := by decide +kernel
theorem dX4_placeMostApart_5 : decode cX4_placeMostApart 5 = .ok (.iload_n 3, 1) := by decide +kernel
theorem dX4_placeMostApart_6 : decode cX4_placeMostApart 6 = .ok (.bipush 48, 2) := by decide +kernel
theorem dX4_placeMostApart_8 : decode cX4_placeMostApart 8 = .ok (.if_icmp .ge 41, 3) := by decide +kernel
theorem dX4_placeMostApart_11 : decode cX4_placeMostApart 11 = .ok (.aload_n 1, 1) := by decide +kernel
theorem dX4_placeMostApart_12 : decode cX4_placeMostApart 12 = .ok (.iload_n 3, 1) := by decide +kernel
theorem dX4_placeMostApart_13 : decode cX4_placeMostApart 13 = .ok (.invokevirtual 65, 3) := by decide +kernel
theorem dX4_placeMostApart_16 : decode cX4_placeMostApart 16 = .ok (.ifCond .ne 6, 3) := by decide +kernel
theorem dX4_placeMostApart_19 : decode cX4_placeMostApart 19 = .ok (.goto 24, 3) := by decide +kernel
theorem dX4_placeMostApart_22 : decode cX4_placeMostApart 22 = .ok (.iload_n 2, 1) := by decide +kernel
theorem dX4_placeMostApart_23 : decode cX4_placeMostApart 23 = .ok (.bipush (-9), 2) := by decide +kernel
theorem dX4_placeMostApart_25 : decode cX4_placeMostApart 25 = .ok (.if_icmp .eq 16, 3) := by decide +kernel
theorem dX4_placeMostApart_28 : decode cX4_placeMostApart 28 = .ok (.aload_n 0, 1) := by decide +kernel
theorem dX4_placeMostApart_29 : decode cX4_placeMostApart 29 = .ok (.iload_n 3, 1) := by decide +kernel
theorem dX4_placeMostApart_30 : decode cX4_placeMostApart 30 = .ok (.invokevirtual 85, 3) := by decide +kernel
theorem dX4_placeMostApart_33 : decode cX4_placeMostApart 33 = .ok (.aload_n 0, 1) := by decide +kernel
theorem dX4_placeMostApart_34 : decode cX4_placeMostApart 34 = .ok (.iload_n 2, 1) := by decide +kernel
theorem dX4_placeMostApart_35 : decode cX4_placeMostApart 35 = .ok (.invokevirtual 85, 3) := by decide +kernel
theorem dX4_placeMostApart_38 : decode cX4_placeMostApart 38 = .ok (.if_icmp .le 5, 3) := by decide +kernel
theorem dX4_placeMostApart_41 : decode cX4_placeMostApart 41 = .ok (.iload_n 3, 1) := by decide +kernel
theorem dX4_placeMostApart_42 : decode cX4_placeMostApart 42 = .ok (.istore_n 2, 1) := by decide +kernel
theorem dX4_placeMostApart_43 : decode cX4_placeMostApart 43 = .ok (.iinc 3 1, 3) := by decide +kernel
theorem dX4_placeMostApart_46 : decode cX4_placeMostApart 46 = .ok (.goto (-41), 3) := by decide +kernel
theorem dX4_placeMostApart_49 : decode cX4_placeMostApart 49 = .ok (.iload_n 2, 1) := by decide +kernel
theorem dX4_placeMostApart_50 : decode cX4_placeMostApart 50 = .ok (.ireturn, 1) := by decide +kernel
