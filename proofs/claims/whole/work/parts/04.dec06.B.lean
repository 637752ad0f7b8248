theorem d_B_init_0 : decode b_B_init 0 = .ok (.aload_n 0, 1) := by decide +kernel
theorem d_B_init_1 : decode b_B_init 1 = .ok (.invokespecial 3, 3) := by decide +kernel
theorem d_B_init_4 : decode b_B_init 4 = .ok (.aload_n 0, 1) := by decide +kernel
theorem d_B_init_5 : decode b_B_init 5 = .ok (.lload_n 1, 1) := by decide +kernel
theorem d_B_init_6 : decode b_B_init 6 = .ok (.putfield 9, 3) := by decide +kernel
theorem d_B_init_9 : decode b_B_init 9 = .ok (.aload_n 0, 1) := by decide +kernel
theorem d_B_init_10 : decode b_B_init 10 = .ok (.iload_n 3, 1) := by decide +kernel
theorem d_B_init_11 : decode b_B_init 11 = .ok (.putfield 15, 3) := by decide +kernel
theorem d_B_init_14 : decode b_B_init 14 = .ok (.aload_n 0, 1) := by decide +kernel
theorem d_B_init_15 : decode b_B_init 15 = .ok (.iload 4, 2) := by decide +kernel
theorem d_B_init_17 : decode b_B_init 17 = .ok (.putfield 19, 3) := by decide +kernel
theorem d_B_init_20 : decode b_B_init 20 = .ok (.aload_n 0, 1) := by decide +kernel
theorem d_B_init_21 : decode b_B_init 21 = .ok (.iconst 4, 1) := by decide +kernel
theorem d_B_init_22 : decode b_B_init 22 = .ok (.newarray .long, 2) := by decide +kernel
theorem d_B_init_24 : decode b_B_init 24 = .ok (.putfield 23, 3) := by decide +kernel
theorem d_B_init_27 : decode b_B_init 27 = .ok (.aload_n 0, 1) := by decide +kernel
theorem d_B_init_28 : decode b_B_init 28 = .ok (.bipush 24, 2) := by decide +kernel
theorem d_B_init_30 : decode b_B_init 30 = .ok (.newarray .long, 2) := by decide +kernel
theorem d_B_init_32 : decode b_B_init 32 = .ok (.putfield 27, 3) := by decide +kernel
theorem d_B_init_35 : decode b_B_init 35 = .ok (.aload_n 0, 1) := by decide +kernel
theorem d_B_init_36 : decode b_B_init 36 = .ok (.bipush 12, 2) := by decide +kernel
theorem d_B_init_38 : decode b_B_init 38 = .ok (.newarray .int, 2) := by decide +kernel
theorem d_B_init_40 : decode b_B_init 40 = .ok (.putfield 30, 3) := by decide +kernel
theorem d_B_init_43 : decode b_B_init 43 = .ok (.aload_n 0, 1) := by decide +kernel
theorem d_B_init_44 : decode b_B_init 44 = .ok (.getfield 30, 3) := by decide +kernel
theorem d_B_init_47 : decode b_B_init 47 = .ok (.iconst (-1), 1) := by decide +kernel
theorem d_B_init_48 : decode b_B_init 48 = .ok (.invokestatic 34, 3) := by decide +kernel
theorem d_B_init_51 : decode b_B_init 51 = .ok (.return_, 1) := by decide +kernel
theorem d_B_middleOf_0 : decode b_B_middleOf 0 = .ok (.aload_n 0, 1) := by decide +kernel
theorem d_B_middleOf_1 : decode b_B_middleOf 1 = .ok (.iload_n 1, 1) := by decide +kernel
theorem d_B_middleOf_2 : decode b_B_middleOf 2 = .ok (.invokevirtual 40, 3) := by decide +kernel
theorem d_B_middleOf_5 : decode b_B_middleOf 5 = .ok (.ifCond .ne 5, 3) := by decide +kernel
theorem d_B_middleOf_8 : decode b_B_middleOf 8 = .ok (.iconst (-1), 1) := by decide +kernel
theorem d_B_middleOf_9 : decode b_B_middleOf 9 = .ok (.ireturn, 1) := by decide +kernel
theorem d_B_middleOf_10 : decode b_B_middleOf 10 = .ok (.aload_n 0, 1) := by decide +kernel
theorem d_B_middleOf_11 : decode b_B_middleOf 11 = .ok (.getfield 30, 3) := by decide +kernel
theorem d_B_middleOf_14 : decode b_B_middleOf 14 = .ok (.iload_n 1, 1) := by decide +kernel
theorem d_B_middleOf_15 : decode b_B_middleOf 15 = .ok (.iconst 3, 1) := by decide +kernel
theorem d_B_middleOf_16 : decode b_B_middleOf 16 = .ok (.imul, 1) := by decide +kernel
theorem d_B_middleOf_17 : decode b_B_middleOf 17 = .ok (.iaload, 1) := by decide +kernel
theorem d_B_middleOf_18 : decode b_B_middleOf 18 = .ok (.istore_n 2, 1) := by decide +kernel
theorem d_B_middleOf_19 : decode b_B_middleOf 19 = .ok (.aload_n 0, 1) := by decide +kernel
theorem d_B_middleOf_20 : decode b_B_middleOf 20 = .ok (.getfield 30, 3) := by decide +kernel
theorem d_B_middleOf_23 : decode b_B_middleOf 23 = .ok (.iload_n 1, 1) := by decide +kernel
theorem d_B_middleOf_24 : decode b_B_middleOf 24 = .ok (.iconst 3, 1) := by decide +kernel
theorem d_B_middleOf_25 : decode b_B_middleOf 25 = .ok (.imul, 1) := by decide +kernel
theorem d_B_middleOf_26 : decode b_B_middleOf 26 = .ok (.iconst 1, 1) := by decide +kernel
theorem d_B_middleOf_27 : decode b_B_middleOf 27 = .ok (.iadd, 1) := by decide +kernel
theorem d_B_middleOf_28 : decode b_B_middleOf 28 = .ok (.iaload, 1) := by decide +kernel
theorem d_B_middleOf_29 : decode b_B_middleOf 29 = .ok (.istore_n 3, 1) := by decide +kernel
theorem d_B_middleOf_30 : decode b_B_middleOf 30 = .ok (.aload_n 0, 1) := by decide +kernel
theorem d_B_middleOf_31 : decode b_B_middleOf 31 = .ok (.getfield 30, 3) := by decide +kernel
theorem d_B_middleOf_34 : decode b_B_middleOf 34 = .ok (.iload_n 1, 1) := by decide +kernel
theorem d_B_middleOf_35 : decode b_B_middleOf 35 = .ok (.iconst 3, 1) := by decide +kernel
theorem d_B_middleOf_36 : decode b_B_middleOf 36 = .ok (.imul, 1) := by decide +kernel
theorem d_B_middleOf_37 : decode b_B_middleOf 37 = .ok (.iconst 2, 1) := by decide +kernel
theorem d_B_middleOf_38 : decode b_B_middleOf 38 = .ok (.iadd, 1) := by decide +kernel
theorem d_B_middleOf_39 : decode b_B_middleOf 39 = .ok (.iaload, 1) := by decide +kernel
theorem d_B_middleOf_40 : decode b_B_middleOf 40 = .ok (.istore 4, 2) := by decide +kernel
theorem d_B_middleOf_42 : decode b_B_middleOf 42 = .ok (.iload_n 2, 1) := by decide +kernel
theorem d_B_middleOf_43 : decode b_B_middleOf 43 = .ok (.iload_n 3, 1) := by decide +kernel
theorem d_B_middleOf_44 : decode b_B_middleOf 44 = .ok (.invokestatic 44, 3) := by decide +kernel
theorem d_B_middleOf_47 : decode b_B_middleOf 47 = .ok (.iload_n 2, 1) := by decide +kernel
theorem d_B_middleOf_48 : decode b_B_middleOf 48 = .ok (.iload_n 3, 1) := by decide +kernel
theorem d_B_middleOf_49 : decode b_B_middleOf 49 = .ok (.invokestatic 50, 3) := by decide +kernel
theorem d_B_middleOf_52 : decode b_B_middleOf 52 = .ok (.iload 4, 2) := by decide +kernel
theorem d_B_middleOf_54 : decode b_B_middleOf 54 = .ok (.invokestatic 44, 3) := by decide +kernel
theorem d_B_middleOf_57 : decode b_B_middleOf 57 = .ok (.invokestatic 50, 3) := by decide +kernel
theorem d_B_middleOf_60 : decode b_B_middleOf 60 = .ok (.ireturn, 1) := by decide +kernel
theorem d_B_spreadOf_0 : decode b_B_spreadOf 0 = .ok (.aload_n 0, 1) := by decide +kernel
theorem d_B_spreadOf_1 : decode b_B_spreadOf 1 = .ok (.iload_n 1, 1) := by decide +kernel
theorem d_B_spreadOf_2 : decode b_B_spreadOf 2 = .ok (.invokevirtual 40, 3) := by decide +kernel
theorem d_B_spreadOf_5 : decode b_B_spreadOf 5 = .ok (.ifCond .ne 5, 3) := by decide +kernel
theorem d_B_spreadOf_8 : decode b_B_spreadOf 8 = .ok (.iconst (-1), 1) := by decide +kernel
theorem d_B_spreadOf_9 : decode b_B_spreadOf 9 = .ok (.ireturn, 1) := by decide +kernel
theorem d_B_spreadOf_10 : decode b_B_spreadOf 10 = .ok (.aload_n 0, 1) := by decide +kernel
theorem d_B_spreadOf_11 : decode b_B_spreadOf 11 = .ok (.getfield 30, 3) := by decide +kernel
theorem d_B_spreadOf_14 : decode b_B_spreadOf 14 = .ok (.iload_n 1, 1) := by decide +kernel
theorem d_B_spreadOf_15 : decode b_B_spreadOf 15 = .ok (.iconst 3, 1) := by decide +kernel
theorem d_B_spreadOf_16 : decode b_B_spreadOf 16 = .ok (.imul, 1) := by decide +kernel
theorem d_B_spreadOf_17 : decode b_B_spreadOf 17 = .ok (.iaload, 1) := by decide +kernel
theorem d_B_spreadOf_18 : decode b_B_spreadOf 18 = .ok (.istore_n 2, 1) := by decide +kernel
theorem d_B_spreadOf_19 : decode b_B_spreadOf 19 = .ok (.aload_n 0, 1) := by decide +kernel
theorem d_B_spreadOf_20 : decode b_B_spreadOf 20 = .ok (.getfield 30, 3) := by decide +kernel
theorem d_B_spreadOf_23 : decode b_B_spreadOf 23 = .ok (.iload_n 1, 1) := by decide +kernel
theorem d_B_spreadOf_24 : decode b_B_spreadOf 24 = .ok (.iconst 3, 1) := by decide +kernel
theorem d_B_spreadOf_25 : decode b_B_spreadOf 25 = .ok (.imul, 1) := by decide +kernel
theorem d_B_spreadOf_26 : decode b_B_spreadOf 26 = .ok (.iconst 1, 1) := by decide +kernel
theorem d_B_spreadOf_27 : decode b_B_spreadOf 27 = .ok (.iadd, 1) := by decide +kernel
theorem d_B_spreadOf_28 : decode b_B_spreadOf 28 = .ok (.iaload, 1) := by decide +kernel
theorem d_B_spreadOf_29 : decode b_B_spreadOf 29 = .ok (.istore_n 3, 1) := by decide +kernel
theorem d_B_spreadOf_30 : decode b_B_spreadOf 30 = .ok (.aload_n 0, 1) := by decide +kernel
theorem d_B_spreadOf_31 : decode b_B_spreadOf 31 = .ok (.getfield 30, 3) := by decide +kernel
theorem d_B_spreadOf_34 : decode b_B_spreadOf 34 = .ok (.iload_n 1, 1) := by decide +kernel
theorem d_B_spreadOf_35 : decode b_B_spreadOf 35 = .ok (.iconst 3, 1) := by decide +kernel
theorem d_B_spreadOf_36 : decode b_B_spreadOf 36 = .ok (.imul, 1) := by decide +kernel
theorem d_B_spreadOf_37 : decode b_B_spreadOf 37 = .ok (.iconst 2, 1) := by decide +kernel
theorem d_B_spreadOf_38 : decode b_B_spreadOf 38 = .ok (.iadd, 1) := by decide +kernel
theorem d_B_spreadOf_39 : decode b_B_spreadOf 39 = .ok (.iaload, 1) := by decide +kernel
theorem d_B_spreadOf_40 : decode b_B_spreadOf 40 = .ok (.istore 4, 2) := by decide +kernel
theorem d_B_spreadOf_42 : decode b_B_spreadOf 42 = .ok (.iload_n 2, 1) := by decide +kernel
theorem d_B_spreadOf_43 : decode b_B_spreadOf 43 = .ok (.iload_n 3, 1) := by decide +kernel
theorem d_B_spreadOf_44 : decode b_B_spreadOf 44 = .ok (.invokestatic 50, 3) := by decide +kernel
theorem d_B_spreadOf_47 : decode b_B_spreadOf 47 = .ok (.iload 4, 2) := by decide +kernel
theorem d_B_spreadOf_49 : decode b_B_spreadOf 49 = .ok (.invokestatic 50, 3) := by decide +kernel
theorem d_B_spreadOf_52 : decode b_B_spreadOf 52 = .ok (.iload_n 2, 1) := by decide +kernel
theorem d_B_spreadOf_53 : decode b_B_spreadOf 53 = .ok (.iload_n 3, 1) := by decide +kernel
theorem d_B_spreadOf_54 : decode b_B_spreadOf 54 = .ok (.invokestatic 44, 3) := by decide +kernel
theorem d_B_spreadOf_57 : decode b_B_spreadOf 57 = .ok (.iload 4, 2) := by decide +kernel
theorem d_B_spreadOf_59 : decode b_B_spreadOf 59 = .ok (.invokestatic 44, 3) := by decide +kernel
theorem d_B_spreadOf_62 : decode b_B_spreadOf 62 = .ok (.isub, 1) := by decide +kernel
theorem d_B_spreadOf_63 : decode b_B_spreadOf 63 = .ok (.ireturn, 1) := by decide +kernel
theorem d_B_hasSpreadAbove_0 : decode b_B_hasSpreadAbove 0 = .ok (.iconst 0, 1) := by decide +kernel
theorem d_B_hasSpreadAbove_1 : decode b_B_hasSpreadAbove 1 = .ok (.istore_n 2, 1) := by decide +kernel
theorem d_B_hasSpreadAbove_2 : decode b_B_hasSpreadAbove 2 = .ok (.iload_n 2, 1) := by decide +kernel
theorem d_B_hasSpreadAbove_3 : decode b_B_hasSpreadAbove 3 = .ok (.iconst 4, 1) := by decide +kernel
theorem d_B_hasSpreadAbove_4 : decode b_B_hasSpreadAbove 4 = .ok (.if_icmp .ge 20, 3) := by decide +kernel
theorem d_B_hasSpreadAbove_7 : decode b_B_hasSpreadAbove 7 = .ok (.aload_n 0, 1) := by decide +kernel
theorem d_B_hasSpreadAbove_8 : decode b_B_hasSpreadAbove 8 = .ok (.iload_n 2, 1) := by decide +kernel
theorem d_B_hasSpreadAbove_9 : decode b_B_hasSpreadAbove 9 = .ok (.invokevirtual 53, 3) := by decide +kernel
theorem d_B_hasSpreadAbove_12 : decode b_B_hasSpreadAbove 12 = .ok (.iload_n 1, 1) := by decide +kernel
theorem d_B_hasSpreadAbove_13 : decode b_B_hasSpreadAbove 13 = .ok (.if_icmp .le 5, 3) := by decide +kernel
theorem d_B_hasSpreadAbove_16 : decode b_B_hasSpreadAbove 16 = .ok (.iconst 1, 1) := by decide +kernel
theorem d_B_hasSpreadAbove_17 : decode b_B_hasSpreadAbove 17 = .ok (.ireturn, 1) := by decide +kernel
theorem d_B_hasSpreadAbove_18 : decode b_B_hasSpreadAbove 18 = .ok (.iinc 2 1, 3) := by decide +kernel
theorem d_B_hasSpreadAbove_21 : decode b_B_hasSpreadAbove 21 = .ok (.goto (-19), 3) := by decide +kernel
theorem d_B_hasSpreadAbove_24 : decode b_B_hasSpreadAbove 24 = .ok (.iconst 0, 1) := by decide +kernel
theorem d_B_hasSpreadAbove_25 : decode b_B_hasSpreadAbove 25 = .ok (.ireturn, 1) := by decide +kernel
theorem d_B_allTold_0 : decode b_B_allTold 0 = .ok (.iload_n 1, 1) := by decide +kernel
theorem d_B_allTold_1 : decode b_B_allTold 1 = .ok (.invokestatic 57, 3) := by decide +kernel
theorem d_B_allTold_4 : decode b_B_allTold 4 = .ok (.ifCond .ne 5, 3) := by decide +kernel
theorem d_B_allTold_7 : decode b_B_allTold 7 = .ok (.iconst 0, 1) := by decide +kernel
theorem d_B_allTold_8 : decode b_B_allTold 8 = .ok (.ireturn, 1) := by decide +kernel
theorem d_B_allTold_9 : decode b_B_allTold 9 = .ok (.iconst 0, 1) := by decide +kernel
theorem d_B_allTold_10 : decode b_B_allTold 10 = .ok (.istore_n 2, 1) := by decide +kernel
theorem d_B_allTold_11 : decode b_B_allTold 11 = .ok (.iload_n 2, 1) := by decide +kernel
theorem d_B_allTold_12 : decode b_B_allTold 12 = .ok (.iconst 3, 1) := by decide +kernel
theorem d_B_allTold_13 : decode b_B_allTold 13 = .ok (.if_icmp .ge 25, 3) := by decide +kernel
theorem d_B_allTold_16 : decode b_B_allTold 16 = .ok (.aload_n 0, 1) := by decide +kernel
theorem d_B_allTold_17 : decode b_B_allTold 17 = .ok (.getfield 30, 3) := by decide +kernel
theorem d_B_allTold_20 : decode b_B_allTold 20 = .ok (.iload_n 1, 1) := by decide +kernel
theorem d_B_allTold_21 : decode b_B_allTold 21 = .ok (.iconst 3, 1) := by decide +kernel
theorem d_B_allTold_22 : decode b_B_allTold 22 = .ok (.imul, 1) := by decide +kernel
theorem d_B_allTold_23 : decode b_B_allTold 23 = .ok (.iload_n 2, 1) := by decide +kernel
theorem d_B_allTold_24 : decode b_B_allTold 24 = .ok (.iadd, 1) := by decide +kernel
theorem d_B_allTold_25 : decode b_B_allTold 25 = .ok (.iaload, 1) := by decide +kernel
theorem d_B_allTold_26 : decode b_B_allTold 26 = .ok (.iconst (-1), 1) := by decide +kernel
theorem d_B_allTold_27 : decode b_B_allTold 27 = .ok (.if_icmp .ne 5, 3) := by decide +kernel
theorem d_B_allTold_30 : decode b_B_allTold 30 = .ok (.iconst 0, 1) := by decide +kernel
theorem d_B_allTold_31 : decode b_B_allTold 31 = .ok (.ireturn, 1) := by decide +kernel
theorem d_B_allTold_32 : decode b_B_allTold 32 = .ok (.iinc 2 1, 3) := by decide +kernel
theorem d_B_allTold_35 : decode b_B_allTold 35 = .ok (.goto (-24), 3) := by decide +kernel
theorem d_B_allTold_38 : decode b_B_allTold 38 = .ok (.iconst 1, 1) := by decide +kernel
theorem d_B_allTold_39 : decode b_B_allTold 39 = .ok (.ireturn, 1) := by decide +kernel
