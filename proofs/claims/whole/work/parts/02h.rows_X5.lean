theorem dX5_init_0 : decode cX5_init 0 = .ok (.aload_n 0, 1) := by decide +kernel
theorem dX5_init_1 : decode cX5_init 1 = .ok (.invokespecial 3, 3) := by decide +kernel
theorem dX5_init_4 : decode cX5_init 4 = .ok (.aload_n 0, 1) := by decide +kernel
theorem dX5_init_5 : decode cX5_init 5 = .ok (.bipush 8, 2) := by decide +kernel
theorem dX5_init_7 : decode cX5_init 7 = .ok (.newarray .int, 2) := by decide +kernel
theorem dX5_init_9 : decode cX5_init 9 = .ok (.putfield 9, 3) := by decide +kernel
theorem dX5_init_12 : decode cX5_init 12 = .ok (.aload_n 0, 1) := by decide +kernel
theorem dX5_init_13 : decode cX5_init 13 = .ok (.bipush 8, 2) := by decide +kernel
theorem dX5_init_15 : decode cX5_init 15 = .ok (.newarray .int, 2) := by decide +kernel
theorem dX5_init_17 : decode cX5_init 17 = .ok (.putfield 15, 3) := by decide +kernel
theorem dX5_init_20 : decode cX5_init 20 = .ok (.aload_n 0, 1) := by decide +kernel
theorem dX5_init_21 : decode cX5_init 21 = .ok (.bipush 8, 2) := by decide +kernel
theorem dX5_init_23 : decode cX5_init 23 = .ok (.newarray .int, 2) := by decide +kernel
theorem dX5_init_25 : decode cX5_init 25 = .ok (.putfield 18, 3) := by decide +kernel
theorem dX5_init_28 : decode cX5_init 28 = .ok (.aload_n 0, 1) := by decide +kernel
theorem dX5_init_29 : decode cX5_init 29 = .ok (.bipush 8, 2) := by decide +kernel
theorem dX5_init_31 : decode cX5_init 31 = .ok (.newarray .int, 2) := by decide +kernel
theorem dX5_init_33 : decode cX5_init 33 = .ok (.putfield 21, 3) := by decide +kernel
theorem dX5_init_36 : decode cX5_init 36 = .ok (.aload_n 0, 1) := by decide +kernel
theorem dX5_init_37 : decode cX5_init 37 = .ok (.iconst 0, 1) := by decide +kernel
theorem dX5_init_38 : decode cX5_init 38 = .ok (.putfield 24, 3) := by decide +kernel
theorem dX5_init_41 : decode cX5_init 41 = .ok (.return_, 1) := by decide +kernel
theorem dX5_add_0 : decode cX5_add 0 = .ok (.aload_n 0, 1) := by decide +kernel
theorem dX5_add_1 : decode cX5_add 1 = .ok (.getfield 24, 3) := by decide +kernel
theorem dX5_add_4 : decode cX5_add 4 = .ok (.bipush 8, 2) := by decide +kernel
theorem dX5_add_6 : decode cX5_add 6 = .ok (.if_icmp .lt 6, 3) := by decide +kernel
theorem dX5_add_9 : decode cX5_add 9 = .ok (.bipush (-3), 2) := by decide +kernel
theorem dX5_add_11 : decode cX5_add 11 = .ok (.ireturn, 1) := by decide +kernel
theorem dX5_add_12 : decode cX5_add 12 = .ok (.aload_n 0, 1) := by decide +kernel
theorem dX5_add_13 : decode cX5_add 13 = .ok (.getfield 9, 3) := by decide +kernel
theorem dX5_add_16 : decode cX5_add 16 = .ok (.aload_n 0, 1) := by decide +kernel
theorem dX5_add_17 : decode cX5_add 17 = .ok (.getfield 24, 3) := by decide +kernel
theorem dX5_add_20 : decode cX5_add 20 = .ok (.iload_n 1, 1) := by decide +kernel
theorem dX5_add_21 : decode cX5_add 21 = .ok (.iastore, 1) := by decide +kernel
theorem dX5_add_22 : decode cX5_add 22 = .ok (.aload_n 0, 1) := by decide +kernel
theorem dX5_add_23 : decode cX5_add 23 = .ok (.getfield 15, 3) := by decide +kernel
theorem dX5_add_26 : decode cX5_add 26 = .ok (.aload_n 0, 1) := by decide +kernel
theorem dX5_add_27 : decode cX5_add 27 = .ok (.getfield 24, 3) := by decide +kernel
theorem dX5_add_30 : decode cX5_add 30 = .ok (.iload_n 2, 1) := by decide +kernel
theorem dX5_add_31 : decode cX5_add 31 = .ok (.iastore, 1) := by decide +kernel
theorem dX5_add_32 : decode cX5_add 32 = .ok (.aload_n 0, 1) := by decide +kernel
theorem dX5_add_33 : decode cX5_add 33 = .ok (.getfield 18, 3) := by decide +kernel
theorem dX5_add_36 : decode cX5_add 36 = .ok (.aload_n 0, 1) := by decide +kernel
theorem dX5_add_37 : decode cX5_add 37 = .ok (.getfield 24, 3) := by decide +kernel
theorem dX5_add_40 : decode cX5_add 40 = .ok (.iload_n 3, 1) := by decide +kernel
theorem dX5_add_41 : decode cX5_add 41 = .ok (.iastore, 1) := by decide +kernel
theorem dX5_add_42 : decode cX5_add 42 = .ok (.aload_n 0, 1) := by decide +kernel
theorem dX5_add_43 : decode cX5_add 43 = .ok (.getfield 21, 3) := by decide +kernel
theorem dX5_add_46 : decode cX5_add 46 = .ok (.aload_n 0, 1) := by decide +kernel
theorem dX5_add_47 : decode cX5_add 47 = .ok (.getfield 24, 3) := by decide +kernel
theorem dX5_add_50 : decode cX5_add 50 = .ok (.iload 4, 2) := by decide +kernel
theorem dX5_add_52 : decode cX5_add 52 = .ok (.iastore, 1) := by decide +kernel
theorem dX5_add_53 : decode cX5_add 53 = .ok (.aload_n 0, 1) := by decide +kernel
theorem dX5_add_54 : decode cX5_add 54 = .ok (.dup, 1) := by decide +kernel
theorem dX5_add_55 : decode cX5_add 55 = .ok (.getfield 24, 3) := by decide +kernel
theorem dX5_add_58 : decode cX5_add 58 = .ok (.iconst 1, 1) := by decide +kernel
theorem dX5_add_59 : decode cX5_add 59 = .ok (.iadd, 1) := by decide +kernel
theorem dX5_add_60 : decode cX5_add 60 = .ok (.putfield 24, 3) := by decide +kernel
theorem dX5_add_63 : decode cX5_add 63 = .ok (.aload_n 0, 1) := by decide +kernel
theorem dX5_add_64 : decode cX5_add 64 = .ok (.getfield 24, 3) := by decide +kernel
theorem dX5_add_67 : decode cX5_add 67 = .ok (.iconst 1, 1) := by decide +kernel
theorem dX5_add_68 : decode cX5_add 68 = .ok (.isub, 1) := by decide +kernel
theorem dX5_add_69 : decode cX5_add 69 = .ok (.ireturn, 1) := by decide +kernel
theorem dX5_has_0 : decode cX5_has 0 = .ok (.iload_n 0, 1) := by decide +kernel
theorem dX5_has_1 : decode cX5_has 1 = .ok (.iload_n 1, 1) := by decide +kernel
theorem dX5_has_2 : decode cX5_has 2 = .ok (.ishr, 1) := by decide +kernel
theorem dX5_has_3 : decode cX5_has 3 = .ok (.iconst 1, 1) := by decide +kernel
theorem dX5_has_4 : decode cX5_has 4 = .ok (.iand, 1) := by decide +kernel
theorem dX5_has_5 : decode cX5_has 5 = .ok (.iconst 1, 1) := by decide +kernel
theorem dX5_has_6 : decode cX5_has 6 = .ok (.if_icmp .ne 7, 3) := by decide +kernel
theorem dX5_has_9 : decode cX5_has 9 = .ok (.iconst 1, 1) := by decide +kernel
theorem dX5_has_10 : decode cX5_has 10 = .ok (.goto 4, 3) := by decide +kernel
theorem dX5_has_13 : decode cX5_has 13 = .ok (.iconst 0, 1) := by decide +kernel
theorem dX5_has_14 : decode cX5_has 14 = .ok (.ireturn, 1) := by decide +kernel
theorem dX5_priceOf_0 : decode cX5_priceOf 0 = .ok (.iconst 0, 1) := by decide +kernel
theorem dX5_priceOf_1 : decode cX5_priceOf 1 = .ok (.istore_n 2, 1) := by decide +kernel
theorem dX5_priceOf_2 : decode cX5_priceOf 2 = .ok (.iconst 0, 1) := by decide +kernel
theorem dX5_priceOf_3 : decode cX5_priceOf 3 = .ok (.istore_n 3, 1) := by decide +kernel
theorem dX5_priceOf_4 : decode cX5_priceOf 4 = .ok (.iload_n 3, 1) := by decide +kernel
theorem dX5_priceOf_5 : decode cX5_priceOf 5 = .ok (.aload_n 0, 1) := by decide +kernel
theorem dX5_priceOf_6 : decode cX5_priceOf 6 = .ok (.getfield 24, 3) := by decide +kernel
theorem dX5_priceOf_9 : decode cX5_priceOf 9 = .ok (.if_icmp .ge 26, 3) := by decide +kernel
theorem dX5_priceOf_12 : decode cX5_priceOf 12 = .ok (.iload_n 1, 1) := by decide +kernel
theorem dX5_priceOf_13 : decode cX5_priceOf 13 = .ok (.iload_n 3, 1) := by decide +kernel
theorem dX5_priceOf_14 : decode cX5_priceOf 14 = .ok (.invokestatic 28, 3) := by decide +kernel
theorem dX5_priceOf_17 : decode cX5_priceOf 17 = .ok (.ifCond .eq 12, 3) := by decide +kernel
theorem dX5_priceOf_20 : decode cX5_priceOf 20 = .ok (.iload_n 2, 1) := by decide +kernel
theorem dX5_priceOf_21 : decode cX5_priceOf 21 = .ok (.aload_n 0, 1) := by decide +kernel
theorem dX5_priceOf_22 : decode cX5_priceOf 22 = .ok (.getfield 21, 3) := by decide +kernel
theorem dX5_priceOf_25 : decode cX5_priceOf 25 = .ok (.iload_n 3, 1) := by decide +kernel
theorem dX5_priceOf_26 : decode cX5_priceOf 26 = .ok (.iaload, 1) := by decide +kernel
theorem dX5_priceOf_27 : decode cX5_priceOf 27 = .ok (.iadd, 1) := by decide +kernel
theorem dX5_priceOf_28 : decode cX5_priceOf 28 = .ok (.istore_n 2, 1) := by decide +kernel
theorem dX5_priceOf_29 : decode cX5_priceOf 29 = .ok (.iinc 3 1, 3) := by decide +kernel
theorem dX5_priceOf_32 : decode cX5_priceOf 32 = .ok (.goto (-28), 3) := by decide +kernel
theorem dX5_priceOf_35 : decode cX5_priceOf 35 = .ok (.iload_n 2, 1) := by decide +kernel
theorem dX5_priceOf_36 : decode cX5_priceOf 36 = .ok (.ireturn, 1) := by decide +kernel
theorem dX5_moreHold_0 : decode cX5_moreHold 0 = .ok (.iconst 0, 1) := by decide +kernel
theorem dX5_moreHold_1 : decode cX5_moreHold 1 = .ok (.istore_n 3, 1) := by decide +kernel
theorem dX5_moreHold_2 : decode cX5_moreHold 2 = .ok (.iconst 0, 1) := by decide +kernel
theorem dX5_moreHold_3 : decode cX5_moreHold 3 = .ok (.istore 4, 2) := by decide +kernel
theorem dX5_moreHold_5 : decode cX5_moreHold 5 = .ok (.iload 4, 2) := by decide +kernel
theorem dX5_moreHold_7 : decode cX5_moreHold 7 = .ok (.aload_n 0, 1) := by decide +kernel
theorem dX5_moreHold_8 : decode cX5_moreHold 8 = .ok (.getfield 24, 3) := by decide +kernel
theorem dX5_moreHold_11 : decode cX5_moreHold 11 = .ok (.if_icmp .ge 49, 3) := by decide +kernel
theorem dX5_moreHold_14 : decode cX5_moreHold 14 = .ok (.iload_n 1, 1) := by decide +kernel
theorem dX5_moreHold_15 : decode cX5_moreHold 15 = .ok (.iload 4, 2) := by decide +kernel
theorem dX5_moreHold_17 : decode cX5_moreHold 17 = .ok (.invokestatic 28, 3) := by decide +kernel
theorem dX5_moreHold_20 : decode cX5_moreHold 20 = .ok (.ifCond .eq 34, 3) := by decide +kernel
theorem dX5_moreHold_23 : decode cX5_moreHold 23 = .ok (.aload_n 0, 1) := by decide +kernel
theorem dX5_moreHold_24 : decode cX5_moreHold 24 = .ok (.getfield 9, 3) := by decide +kernel
theorem dX5_moreHold_27 : decode cX5_moreHold 27 = .ok (.iload 4, 2) := by decide +kernel
theorem dX5_moreHold_29 : decode cX5_moreHold 29 = .ok (.iaload, 1) := by decide +kernel
theorem dX5_moreHold_30 : decode cX5_moreHold 30 = .ok (.ifCond .ne 24, 3) := by decide +kernel
theorem dX5_moreHold_33 : decode cX5_moreHold 33 = .ok (.aload_n 0, 1) := by decide +kernel
theorem dX5_moreHold_34 : decode cX5_moreHold 34 = .ok (.getfield 15, 3) := by decide +kernel
theorem dX5_moreHold_37 : decode cX5_moreHold 37 = .ok (.iload 4, 2) := by decide +kernel
theorem dX5_moreHold_39 : decode cX5_moreHold 39 = .ok (.iaload, 1) := by decide +kernel
theorem dX5_moreHold_40 : decode cX5_moreHold 40 = .ok (.iload_n 2, 1) := by decide +kernel
theorem dX5_moreHold_41 : decode cX5_moreHold 41 = .ok (.if_icmp .ne 13, 3) := by decide +kernel
theorem dX5_moreHold_44 : decode cX5_moreHold 44 = .ok (.iload_n 3, 1) := by decide +kernel
theorem dX5_moreHold_45 : decode cX5_moreHold 45 = .ok (.aload_n 0, 1) := by decide +kernel
theorem dX5_moreHold_46 : decode cX5_moreHold 46 = .ok (.getfield 18, 3) := by decide +kernel
theorem dX5_moreHold_49 : decode cX5_moreHold 49 = .ok (.iload 4, 2) := by decide +kernel
theorem dX5_moreHold_51 : decode cX5_moreHold 51 = .ok (.iaload, 1) := by decide +kernel
theorem dX5_moreHold_52 : decode cX5_moreHold 52 = .ok (.iadd, 1) := by decide +kernel
theorem dX5_moreHold_53 : decode cX5_moreHold 53 = .ok (.istore_n 3, 1) := by decide +kernel
theorem dX5_moreHold_54 : decode cX5_moreHold 54 = .ok (.iinc 4 1, 3) := by decide +kernel
theorem dX5_moreHold_57 : decode cX5_moreHold 57 = .ok (.goto (-52), 3) := by decide +kernel
theorem dX5_moreHold_60 : decode cX5_moreHold 60 = .ok (.iload_n 3, 1) := by decide +kernel
theorem dX5_moreHold_61 : decode cX5_moreHold 61 = .ok (.ireturn, 1) := by decide +kernel
theorem dX5_isDrained_0 : decode cX5_isDrained 0 = .ok (.iconst 0, 1) := by decide +kernel
theorem dX5_isDrained_1 : decode cX5_isDrained 1 = .ok (.istore_n 3, 1) := by decide +kernel
theorem dX5_isDrained_2 : decode cX5_isDrained 2 = .ok (.iload_n 3, 1) := by decide +kernel
theorem dX5_isDrained_3 : decode cX5_isDrained 3 = .ok (.aload_n 0, 1) := by decide +kernel
theorem dX5_isDrained_4 : decode cX5_isDrained 4 = .ok (.getfield 24, 3) := by decide +kernel
theorem dX5_isDrained_7 : decode cX5_isDrained 7 = .ok (.if_icmp .ge 39, 3) := by decide +kernel
theorem dX5_isDrained_10 : decode cX5_isDrained 10 = .ok (.iload_n 1, 1) := by decide +kernel
theorem dX5_isDrained_11 : decode cX5_isDrained 11 = .ok (.iload_n 3, 1) := by decide +kernel
theorem dX5_isDrained_12 : decode cX5_isDrained 12 = .ok (.invokestatic 28, 3) := by decide +kernel
theorem dX5_isDrained_15 : decode cX5_isDrained 15 = .ok (.ifCond .eq 25, 3) := by decide +kernel
theorem dX5_isDrained_18 : decode cX5_isDrained 18 = .ok (.aload_n 0, 1) := by decide +kernel
theorem dX5_isDrained_19 : decode cX5_isDrained 19 = .ok (.getfield 9, 3) := by decide +kernel
theorem dX5_isDrained_22 : decode cX5_isDrained 22 = .ok (.iload_n 3, 1) := by decide +kernel
theorem dX5_isDrained_23 : decode cX5_isDrained 23 = .ok (.iaload, 1) := by decide +kernel
theorem dX5_isDrained_24 : decode cX5_isDrained 24 = .ok (.iconst 1, 1) := by decide +kernel
theorem dX5_isDrained_25 : decode cX5_isDrained 25 = .ok (.if_icmp .ne 15, 3) := by decide +kernel
theorem dX5_isDrained_28 : decode cX5_isDrained 28 = .ok (.aload_n 0, 1) := by decide +kernel
theorem dX5_isDrained_29 : decode cX5_isDrained 29 = .ok (.getfield 15, 3) := by decide +kernel
theorem dX5_isDrained_32 : decode cX5_isDrained 32 = .ok (.iload_n 3, 1) := by decide +kernel
theorem dX5_isDrained_33 : decode cX5_isDrained 33 = .ok (.iaload, 1) := by decide +kernel
theorem dX5_isDrained_34 : decode cX5_isDrained 34 = .ok (.iload_n 2, 1) := by decide +kernel
theorem dX5_isDrained_35 : decode cX5_isDrained 35 = .ok (.if_icmp .ne 5, 3) := by decide +kernel
theorem dX5_isDrained_38 : decode cX5_isDrained 38 = .ok (.iconst 1, 1) := by decide +kernel
theorem dX5_isDrained_39 : decode cX5_isDrained 39 = .ok (.ireturn, 1) := by decide +kernel
theorem dX5_isDrained_40 : decode cX5_isDrained 40 = .ok (.iinc 3 1, 3) := by decide +kernel
theorem dX5_isDrained_43 : decode cX5_isDrained 43 = .ok (.goto (-41), 3) := by decide +kernel
theorem dX5_isDrained_46 : decode cX5_isDrained 46 = .ok (.iconst 0, 1) := by decide +kernel
theorem dX5_isDrained_47 : decode cX5_isDrained 47 = .ok (.ireturn, 1) := by decide +kernel
