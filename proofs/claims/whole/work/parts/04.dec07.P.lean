theorem d_P_init_0 : decode b_P_init 0 = .ok (.aload_n 0, 1) := by decide +kernel
theorem d_P_init_1 : decode b_P_init 1 = .ok (.invokespecial 3, 3) := by decide +kernel
theorem d_P_init_4 : decode b_P_init 4 = .ok (.aload_n 0, 1) := by decide +kernel
theorem d_P_init_5 : decode b_P_init 5 = .ok (.iconst 4, 1) := by decide +kernel
theorem d_P_init_6 : decode b_P_init 6 = .ok (.newarray .int, 2) := by decide +kernel
theorem d_P_init_8 : decode b_P_init 8 = .ok (.putfield 9, 3) := by decide +kernel
theorem d_P_init_11 : decode b_P_init 11 = .ok (.aload_n 0, 1) := by decide +kernel
theorem d_P_init_12 : decode b_P_init 12 = .ok (.bipush 24, 2) := by decide +kernel
theorem d_P_init_14 : decode b_P_init 14 = .ok (.newarray .int, 2) := by decide +kernel
theorem d_P_init_16 : decode b_P_init 16 = .ok (.putfield 15, 3) := by decide +kernel
theorem d_P_init_19 : decode b_P_init 19 = .ok (.aload_n 0, 1) := by decide +kernel
theorem d_P_init_20 : decode b_P_init 20 = .ok (.bipush 24, 2) := by decide +kernel
theorem d_P_init_22 : decode b_P_init 22 = .ok (.newarray .long, 2) := by decide +kernel
theorem d_P_init_24 : decode b_P_init 24 = .ok (.putfield 18, 3) := by decide +kernel
theorem d_P_init_27 : decode b_P_init 27 = .ok (.return_, 1) := by decide +kernel
theorem d_P_append_0 : decode b_P_append 0 = .ok (.aload_n 0, 1) := by decide +kernel
theorem d_P_append_1 : decode b_P_append 1 = .ok (.iload_n 1, 1) := by decide +kernel
theorem d_P_append_2 : decode b_P_append 2 = .ok (.invokevirtual 22, 3) := by decide +kernel
theorem d_P_append_5 : decode b_P_append 5 = .ok (.istore 5, 2) := by decide +kernel
theorem d_P_append_7 : decode b_P_append 7 = .ok (.iload_n 1, 1) := by decide +kernel
theorem d_P_append_8 : decode b_P_append 8 = .ok (.invokestatic 26, 3) := by decide +kernel
theorem d_P_append_11 : decode b_P_append 11 = .ok (.ifCond .eq 10, 3) := by decide +kernel
theorem d_P_append_14 : decode b_P_append 14 = .ok (.iload 5, 2) := by decide +kernel
theorem d_P_append_16 : decode b_P_append 16 = .ok (.bipush 6, 2) := by decide +kernel
theorem d_P_append_18 : decode b_P_append 18 = .ok (.if_icmp .lt 5, 3) := by decide +kernel
theorem d_P_append_21 : decode b_P_append 21 = .ok (.iconst 0, 1) := by decide +kernel
theorem d_P_append_22 : decode b_P_append 22 = .ok (.ireturn, 1) := by decide +kernel
theorem d_P_append_23 : decode b_P_append 23 = .ok (.iload_n 1, 1) := by decide +kernel
theorem d_P_append_24 : decode b_P_append 24 = .ok (.bipush 6, 2) := by decide +kernel
theorem d_P_append_26 : decode b_P_append 26 = .ok (.imul, 1) := by decide +kernel
theorem d_P_append_27 : decode b_P_append 27 = .ok (.iload 5, 2) := by decide +kernel
theorem d_P_append_29 : decode b_P_append 29 = .ok (.iadd, 1) := by decide +kernel
theorem d_P_append_30 : decode b_P_append 30 = .ok (.istore 6, 2) := by decide +kernel
theorem d_P_append_32 : decode b_P_append 32 = .ok (.iload 5, 2) := by decide +kernel
theorem d_P_append_34 : decode b_P_append 34 = .ok (.ifCond .le 18, 3) := by decide +kernel
theorem d_P_append_37 : decode b_P_append 37 = .ok (.iload_n 2, 1) := by decide +kernel
theorem d_P_append_38 : decode b_P_append 38 = .ok (.aload_n 0, 1) := by decide +kernel
theorem d_P_append_39 : decode b_P_append 39 = .ok (.getfield 15, 3) := by decide +kernel
theorem d_P_append_42 : decode b_P_append 42 = .ok (.iload 6, 2) := by decide +kernel
theorem d_P_append_44 : decode b_P_append 44 = .ok (.iconst 1, 1) := by decide +kernel
theorem d_P_append_45 : decode b_P_append 45 = .ok (.isub, 1) := by decide +kernel
theorem d_P_append_46 : decode b_P_append 46 = .ok (.iaload, 1) := by decide +kernel
theorem d_P_append_47 : decode b_P_append 47 = .ok (.if_icmp .gt 5, 3) := by decide +kernel
theorem d_P_append_50 : decode b_P_append 50 = .ok (.iconst 0, 1) := by decide +kernel
theorem d_P_append_51 : decode b_P_append 51 = .ok (.ireturn, 1) := by decide +kernel
theorem d_P_append_52 : decode b_P_append 52 = .ok (.aload_n 0, 1) := by decide +kernel
theorem d_P_append_53 : decode b_P_append 53 = .ok (.getfield 15, 3) := by decide +kernel
theorem d_P_append_56 : decode b_P_append 56 = .ok (.iload 6, 2) := by decide +kernel
theorem d_P_append_58 : decode b_P_append 58 = .ok (.iload_n 2, 1) := by decide +kernel
theorem d_P_append_59 : decode b_P_append 59 = .ok (.iastore, 1) := by decide +kernel
theorem d_P_append_60 : decode b_P_append 60 = .ok (.aload_n 0, 1) := by decide +kernel
theorem d_P_append_61 : decode b_P_append 61 = .ok (.getfield 18, 3) := by decide +kernel
theorem d_P_append_64 : decode b_P_append 64 = .ok (.iload 6, 2) := by decide +kernel
theorem d_P_append_66 : decode b_P_append 66 = .ok (.lload_n 3, 1) := by decide +kernel
theorem d_P_append_67 : decode b_P_append 67 = .ok (.lastore, 1) := by decide +kernel
theorem d_P_append_68 : decode b_P_append 68 = .ok (.aload_n 0, 1) := by decide +kernel
theorem d_P_append_69 : decode b_P_append 69 = .ok (.getfield 9, 3) := by decide +kernel
theorem d_P_append_72 : decode b_P_append 72 = .ok (.iload_n 1, 1) := by decide +kernel
theorem d_P_append_73 : decode b_P_append 73 = .ok (.iload 5, 2) := by decide +kernel
theorem d_P_append_75 : decode b_P_append 75 = .ok (.iconst 1, 1) := by decide +kernel
theorem d_P_append_76 : decode b_P_append 76 = .ok (.iadd, 1) := by decide +kernel
theorem d_P_append_77 : decode b_P_append 77 = .ok (.iastore, 1) := by decide +kernel
theorem d_P_append_78 : decode b_P_append 78 = .ok (.iconst 1, 1) := by decide +kernel
theorem d_P_append_79 : decode b_P_append 79 = .ok (.ireturn, 1) := by decide +kernel
theorem d_P_centsFor_0 : decode b_P_centsFor 0 = .ok (.lconst 0, 1) := by decide +kernel
theorem d_P_centsFor_1 : decode b_P_centsFor 1 = .ok (.lstore_n 3, 1) := by decide +kernel
theorem d_P_centsFor_2 : decode b_P_centsFor 2 = .ok (.lconst 0, 1) := by decide +kernel
theorem d_P_centsFor_3 : decode b_P_centsFor 3 = .ok (.lstore 5, 2) := by decide +kernel
theorem d_P_centsFor_5 : decode b_P_centsFor 5 = .ok (.iconst 0, 1) := by decide +kernel
theorem d_P_centsFor_6 : decode b_P_centsFor 6 = .ok (.istore 7, 2) := by decide +kernel
theorem d_P_centsFor_8 : decode b_P_centsFor 8 = .ok (.iload 7, 2) := by decide +kernel
theorem d_P_centsFor_10 : decode b_P_centsFor 10 = .ok (.iconst 4, 1) := by decide +kernel
theorem d_P_centsFor_11 : decode b_P_centsFor 11 = .ok (.if_icmp .ge 55, 3) := by decide +kernel
theorem d_P_centsFor_14 : decode b_P_centsFor 14 = .ok (.iload 7, 2) := by decide +kernel
theorem d_P_centsFor_16 : decode b_P_centsFor 16 = .ok (.aload_n 1, 1) := by decide +kernel
theorem d_P_centsFor_17 : decode b_P_centsFor 17 = .ok (.arraylength, 1) := by decide +kernel
theorem d_P_centsFor_18 : decode b_P_centsFor 18 = .ok (.if_icmp .ge 48, 3) := by decide +kernel
theorem d_P_centsFor_21 : decode b_P_centsFor 21 = .ok (.aload_n 0, 1) := by decide +kernel
theorem d_P_centsFor_22 : decode b_P_centsFor 22 = .ok (.iload 7, 2) := by decide +kernel
theorem d_P_centsFor_24 : decode b_P_centsFor 24 = .ok (.iload_n 2, 1) := by decide +kernel
theorem d_P_centsFor_25 : decode b_P_centsFor 25 = .ok (.invokevirtual 30, 3) := by decide +kernel
theorem d_P_centsFor_28 : decode b_P_centsFor 28 = .ok (.lstore 8, 2) := by decide +kernel
theorem d_P_centsFor_30 : decode b_P_centsFor 30 = .ok (.lload_n 3, 1) := by decide +kernel
theorem d_P_centsFor_31 : decode b_P_centsFor 31 = .ok (.aload_n 1, 1) := by decide +kernel
theorem d_P_centsFor_32 : decode b_P_centsFor 32 = .ok (.iload 7, 2) := by decide +kernel
theorem d_P_centsFor_34 : decode b_P_centsFor 34 = .ok (.laload, 1) := by decide +kernel
theorem d_P_centsFor_35 : decode b_P_centsFor 35 = .ok (.ldc2_w 34, 3) := by decide +kernel
theorem d_P_centsFor_38 : decode b_P_centsFor 38 = .ok (.ldiv, 1) := by decide +kernel
theorem d_P_centsFor_39 : decode b_P_centsFor 39 = .ok (.lload 8, 2) := by decide +kernel
theorem d_P_centsFor_41 : decode b_P_centsFor 41 = .ok (.lmul, 1) := by decide +kernel
theorem d_P_centsFor_42 : decode b_P_centsFor 42 = .ok (.ladd, 1) := by decide +kernel
theorem d_P_centsFor_43 : decode b_P_centsFor 43 = .ok (.lstore_n 3, 1) := by decide +kernel
theorem d_P_centsFor_44 : decode b_P_centsFor 44 = .ok (.lload 5, 2) := by decide +kernel
theorem d_P_centsFor_46 : decode b_P_centsFor 46 = .ok (.aload_n 1, 1) := by decide +kernel
theorem d_P_centsFor_47 : decode b_P_centsFor 47 = .ok (.iload 7, 2) := by decide +kernel
theorem d_P_centsFor_49 : decode b_P_centsFor 49 = .ok (.laload, 1) := by decide +kernel
theorem d_P_centsFor_50 : decode b_P_centsFor 50 = .ok (.ldc2_w 34, 3) := by decide +kernel
theorem d_P_centsFor_53 : decode b_P_centsFor 53 = .ok (.lrem, 1) := by decide +kernel
theorem d_P_centsFor_54 : decode b_P_centsFor 54 = .ok (.lload 8, 2) := by decide +kernel
theorem d_P_centsFor_56 : decode b_P_centsFor 56 = .ok (.lmul, 1) := by decide +kernel
theorem d_P_centsFor_57 : decode b_P_centsFor 57 = .ok (.ladd, 1) := by decide +kernel
theorem d_P_centsFor_58 : decode b_P_centsFor 58 = .ok (.lstore 5, 2) := by decide +kernel
theorem d_P_centsFor_60 : decode b_P_centsFor 60 = .ok (.iinc 7 1, 3) := by decide +kernel
theorem d_P_centsFor_63 : decode b_P_centsFor 63 = .ok (.goto (-55), 3) := by decide +kernel
theorem d_P_centsFor_66 : decode b_P_centsFor 66 = .ok (.lload_n 3, 1) := by decide +kernel
theorem d_P_centsFor_67 : decode b_P_centsFor 67 = .ok (.lload 5, 2) := by decide +kernel
theorem d_P_centsFor_69 : decode b_P_centsFor 69 = .ok (.ldc2_w 34, 3) := by decide +kernel
theorem d_P_centsFor_72 : decode b_P_centsFor 72 = .ok (.ldiv, 1) := by decide +kernel
theorem d_P_centsFor_73 : decode b_P_centsFor 73 = .ok (.ladd, 1) := by decide +kernel
theorem d_P_centsFor_74 : decode b_P_centsFor 74 = .ok (.lreturn, 1) := by decide +kernel
theorem d_P_centsOn_0 : decode b_P_centsOn 0 = .ok (.lconst 0, 1) := by decide +kernel
theorem d_P_centsOn_1 : decode b_P_centsOn 1 = .ok (.lstore_n 3, 1) := by decide +kernel
theorem d_P_centsOn_2 : decode b_P_centsOn 2 = .ok (.aload_n 0, 1) := by decide +kernel
theorem d_P_centsOn_3 : decode b_P_centsOn 3 = .ok (.iload_n 1, 1) := by decide +kernel
theorem d_P_centsOn_4 : decode b_P_centsOn 4 = .ok (.invokevirtual 22, 3) := by decide +kernel
theorem d_P_centsOn_7 : decode b_P_centsOn 7 = .ok (.istore 5, 2) := by decide +kernel
theorem d_P_centsOn_9 : decode b_P_centsOn 9 = .ok (.iconst 0, 1) := by decide +kernel
theorem d_P_centsOn_10 : decode b_P_centsOn 10 = .ok (.istore 6, 2) := by decide +kernel
theorem d_P_centsOn_12 : decode b_P_centsOn 12 = .ok (.iload 6, 2) := by decide +kernel
theorem d_P_centsOn_14 : decode b_P_centsOn 14 = .ok (.iload 5, 2) := by decide +kernel
theorem d_P_centsOn_16 : decode b_P_centsOn 16 = .ok (.if_icmp .ge 37, 3) := by decide +kernel
theorem d_P_centsOn_19 : decode b_P_centsOn 19 = .ok (.iload_n 1, 1) := by decide +kernel
theorem d_P_centsOn_20 : decode b_P_centsOn 20 = .ok (.bipush 6, 2) := by decide +kernel
theorem d_P_centsOn_22 : decode b_P_centsOn 22 = .ok (.imul, 1) := by decide +kernel
theorem d_P_centsOn_23 : decode b_P_centsOn 23 = .ok (.iload 6, 2) := by decide +kernel
theorem d_P_centsOn_25 : decode b_P_centsOn 25 = .ok (.iadd, 1) := by decide +kernel
theorem d_P_centsOn_26 : decode b_P_centsOn 26 = .ok (.istore 7, 2) := by decide +kernel
theorem d_P_centsOn_28 : decode b_P_centsOn 28 = .ok (.aload_n 0, 1) := by decide +kernel
theorem d_P_centsOn_29 : decode b_P_centsOn 29 = .ok (.getfield 15, 3) := by decide +kernel
theorem d_P_centsOn_32 : decode b_P_centsOn 32 = .ok (.iload 7, 2) := by decide +kernel
theorem d_P_centsOn_34 : decode b_P_centsOn 34 = .ok (.iaload, 1) := by decide +kernel
theorem d_P_centsOn_35 : decode b_P_centsOn 35 = .ok (.iload_n 2, 1) := by decide +kernel
theorem d_P_centsOn_36 : decode b_P_centsOn 36 = .ok (.if_icmp .gt 11, 3) := by decide +kernel
theorem d_P_centsOn_39 : decode b_P_centsOn 39 = .ok (.aload_n 0, 1) := by decide +kernel
theorem d_P_centsOn_40 : decode b_P_centsOn 40 = .ok (.getfield 18, 3) := by decide +kernel
theorem d_P_centsOn_43 : decode b_P_centsOn 43 = .ok (.iload 7, 2) := by decide +kernel
theorem d_P_centsOn_45 : decode b_P_centsOn 45 = .ok (.laload, 1) := by decide +kernel
theorem d_P_centsOn_46 : decode b_P_centsOn 46 = .ok (.lstore_n 3, 1) := by decide +kernel
theorem d_P_centsOn_47 : decode b_P_centsOn 47 = .ok (.iinc 6 1, 3) := by decide +kernel
theorem d_P_centsOn_50 : decode b_P_centsOn 50 = .ok (.goto (-38), 3) := by decide +kernel
theorem d_P_centsOn_53 : decode b_P_centsOn 53 = .ok (.lload_n 3, 1) := by decide +kernel
theorem d_P_centsOn_54 : decode b_P_centsOn 54 = .ok (.lreturn, 1) := by decide +kernel
theorem d_P_countOf_0 : decode b_P_countOf 0 = .ok (.iload_n 1, 1) := by decide +kernel
theorem d_P_countOf_1 : decode b_P_countOf 1 = .ok (.invokestatic 26, 3) := by decide +kernel
theorem d_P_countOf_4 : decode b_P_countOf 4 = .ok (.ifCond .eq 12, 3) := by decide +kernel
theorem d_P_countOf_7 : decode b_P_countOf 7 = .ok (.aload_n 0, 1) := by decide +kernel
theorem d_P_countOf_8 : decode b_P_countOf 8 = .ok (.getfield 9, 3) := by decide +kernel
theorem d_P_countOf_11 : decode b_P_countOf 11 = .ok (.iload_n 1, 1) := by decide +kernel
theorem d_P_countOf_12 : decode b_P_countOf 12 = .ok (.iaload, 1) := by decide +kernel
theorem d_P_countOf_13 : decode b_P_countOf 13 = .ok (.goto 4, 3) := by decide +kernel
theorem d_P_countOf_16 : decode b_P_countOf 16 = .ok (.iconst 0, 1) := by decide +kernel
theorem d_P_countOf_17 : decode b_P_countOf 17 = .ok (.ireturn, 1) := by decide +kernel
