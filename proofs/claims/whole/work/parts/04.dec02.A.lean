theorem d_A_tolerance_3 : decode b_A_tolerance 3 = .ok (.ldc2_w 75, 3) := by decide +kernel
theorem d_A_tolerance_6 : decode b_A_tolerance 6 = .ok (.invokestatic 40, 3) := by decide +kernel
theorem d_A_tolerance_9 : decode b_A_tolerance 9 = .ok (.ifCond .ne 5, 3) := by decide +kernel
theorem d_A_tolerance_12 : decode b_A_tolerance 12 = .ok (.iconst 0, 1) := by decide +kernel
theorem d_A_tolerance_13 : decode b_A_tolerance 13 = .ok (.ireturn, 1) := by decide +kernel
theorem d_A_tolerance_14 : decode b_A_tolerance 14 = .ok (.aload_n 0, 1) := by decide +kernel
theorem d_A_tolerance_15 : decode b_A_tolerance 15 = .ok (.iload_n 1, 1) := by decide +kernel
theorem d_A_tolerance_16 : decode b_A_tolerance 16 = .ok (.putfield 34, 3) := by decide +kernel
theorem d_A_tolerance_19 : decode b_A_tolerance 19 = .ok (.iconst 1, 1) := by decide +kernel
theorem d_A_tolerance_20 : decode b_A_tolerance 20 = .ok (.ireturn, 1) := by decide +kernel
theorem d_A_rule_0 : decode b_A_rule 0 = .ok (.iload_n 1, 1) := by decide +kernel
theorem d_A_rule_1 : decode b_A_rule 1 = .ok (.i2l, 1) := by decide +kernel
theorem d_A_rule_2 : decode b_A_rule 2 = .ok (.lconst 0, 1) := by decide +kernel
theorem d_A_rule_3 : decode b_A_rule 3 = .ok (.ldc2_w 144, 3) := by decide +kernel
theorem d_A_rule_6 : decode b_A_rule 6 = .ok (.invokestatic 40, 3) := by decide +kernel
theorem d_A_rule_9 : decode b_A_rule 9 = .ok (.ifCond .eq 19, 3) := by decide +kernel
theorem d_A_rule_12 : decode b_A_rule 12 = .ok (.iload_n 2, 1) := by decide +kernel
theorem d_A_rule_13 : decode b_A_rule 13 = .ok (.invokestatic 71, 3) := by decide +kernel
theorem d_A_rule_16 : decode b_A_rule 16 = .ok (.ifCond .eq 12, 3) := by decide +kernel
theorem d_A_rule_19 : decode b_A_rule 19 = .ok (.aload_n 0, 1) := by decide +kernel
theorem d_A_rule_20 : decode b_A_rule 20 = .ok (.getfield 146, 3) := by decide +kernel
theorem d_A_rule_23 : decode b_A_rule 23 = .ok (.bipush 8, 2) := by decide +kernel
theorem d_A_rule_25 : decode b_A_rule 25 = .ok (.if_icmp .lt 5, 3) := by decide +kernel
theorem d_A_rule_28 : decode b_A_rule 28 = .ok (.iconst (-1), 1) := by decide +kernel
theorem d_A_rule_29 : decode b_A_rule 29 = .ok (.ireturn, 1) := by decide +kernel
theorem d_A_rule_30 : decode b_A_rule 30 = .ok (.iload_n 3, 1) := by decide +kernel
theorem d_A_rule_31 : decode b_A_rule 31 = .ok (.i2l, 1) := by decide +kernel
theorem d_A_rule_32 : decode b_A_rule 32 = .ok (.lconst 0, 1) := by decide +kernel
theorem d_A_rule_33 : decode b_A_rule 33 = .ok (.ldc2_w 75, 3) := by decide +kernel
theorem d_A_rule_36 : decode b_A_rule 36 = .ok (.invokestatic 40, 3) := by decide +kernel
theorem d_A_rule_39 : decode b_A_rule 39 = .ok (.ifCond .eq 16, 3) := by decide +kernel
theorem d_A_rule_42 : decode b_A_rule 42 = .ok (.iload 4, 2) := by decide +kernel
theorem d_A_rule_44 : decode b_A_rule 44 = .ok (.i2l, 1) := by decide +kernel
theorem d_A_rule_45 : decode b_A_rule 45 = .ok (.lconst 0, 1) := by decide +kernel
theorem d_A_rule_46 : decode b_A_rule 46 = .ok (.ldc2_w 85, 3) := by decide +kernel
theorem d_A_rule_49 : decode b_A_rule 49 = .ok (.invokestatic 40, 3) := by decide +kernel
theorem d_A_rule_52 : decode b_A_rule 52 = .ok (.ifCond .ne 5, 3) := by decide +kernel
theorem d_A_rule_55 : decode b_A_rule 55 = .ok (.iconst (-1), 1) := by decide +kernel
theorem d_A_rule_56 : decode b_A_rule 56 = .ok (.ireturn, 1) := by decide +kernel
theorem d_A_rule_57 : decode b_A_rule 57 = .ok (.aload_n 0, 1) := by decide +kernel
theorem d_A_rule_58 : decode b_A_rule 58 = .ok (.getfield 23, 3) := by decide +kernel
theorem d_A_rule_61 : decode b_A_rule 61 = .ok (.aload_n 0, 1) := by decide +kernel
theorem d_A_rule_62 : decode b_A_rule 62 = .ok (.getfield 146, 3) := by decide +kernel
theorem d_A_rule_65 : decode b_A_rule 65 = .ok (.new 21, 3) := by decide +kernel
theorem d_A_rule_68 : decode b_A_rule 68 = .ok (.dup, 1) := by decide +kernel
theorem d_A_rule_69 : decode b_A_rule 69 = .ok (.iload_n 1, 1) := by decide +kernel
theorem d_A_rule_70 : decode b_A_rule 70 = .ok (.iload_n 2, 1) := by decide +kernel
theorem d_A_rule_71 : decode b_A_rule 71 = .ok (.iload_n 3, 1) := by decide +kernel
theorem d_A_rule_72 : decode b_A_rule 72 = .ok (.iload 4, 2) := by decide +kernel
theorem d_A_rule_74 : decode b_A_rule 74 = .ok (.invokespecial 149, 3) := by decide +kernel
theorem d_A_rule_77 : decode b_A_rule 77 = .ok (.aastore, 1) := by decide +kernel
theorem d_A_rule_78 : decode b_A_rule 78 = .ok (.aload_n 0, 1) := by decide +kernel
theorem d_A_rule_79 : decode b_A_rule 79 = .ok (.dup, 1) := by decide +kernel
theorem d_A_rule_80 : decode b_A_rule 80 = .ok (.getfield 146, 3) := by decide +kernel
theorem d_A_rule_83 : decode b_A_rule 83 = .ok (.iconst 1, 1) := by decide +kernel
theorem d_A_rule_84 : decode b_A_rule 84 = .ok (.iadd, 1) := by decide +kernel
theorem d_A_rule_85 : decode b_A_rule 85 = .ok (.putfield 146, 3) := by decide +kernel
theorem d_A_rule_88 : decode b_A_rule 88 = .ok (.aload_n 0, 1) := by decide +kernel
theorem d_A_rule_89 : decode b_A_rule 89 = .ok (.getfield 146, 3) := by decide +kernel
theorem d_A_rule_92 : decode b_A_rule 92 = .ok (.iconst 1, 1) := by decide +kernel
theorem d_A_rule_93 : decode b_A_rule 93 = .ok (.isub, 1) := by decide +kernel
theorem d_A_rule_94 : decode b_A_rule 94 = .ok (.ireturn, 1) := by decide +kernel
theorem d_A_cls_0 : decode b_A_cls 0 = .ok (.aload_n 0, 1) := by decide +kernel
theorem d_A_cls_1 : decode b_A_cls 1 = .ok (.iload_n 1, 1) := by decide +kernel
theorem d_A_cls_2 : decode b_A_cls 2 = .ok (.invokevirtual 57, 3) := by decide +kernel
theorem d_A_cls_5 : decode b_A_cls 5 = .ok (.astore_n 2, 1) := by decide +kernel
theorem d_A_cls_6 : decode b_A_cls 6 = .ok (.aload_n 2, 1) := by decide +kernel
theorem d_A_cls_7 : decode b_A_cls 7 = .ok (.ifnull 10, 3) := by decide +kernel
theorem d_A_cls_10 : decode b_A_cls 10 = .ok (.aload_n 2, 1) := by decide +kernel
theorem d_A_cls_11 : decode b_A_cls 11 = .ok (.getfield 61, 3) := by decide +kernel
theorem d_A_cls_14 : decode b_A_cls 14 = .ok (.ifCond .eq 5, 3) := by decide +kernel
theorem d_A_cls_17 : decode b_A_cls 17 = .ok (.iconst (-1), 1) := by decide +kernel
theorem d_A_cls_18 : decode b_A_cls 18 = .ok (.ireturn, 1) := by decide +kernel
theorem d_A_cls_19 : decode b_A_cls 19 = .ok (.iconst 0, 1) := by decide +kernel
theorem d_A_cls_20 : decode b_A_cls 20 = .ok (.istore_n 3, 1) := by decide +kernel
theorem d_A_cls_21 : decode b_A_cls 21 = .ok (.iload_n 3, 1) := by decide +kernel
theorem d_A_cls_22 : decode b_A_cls 22 = .ok (.aload_n 0, 1) := by decide +kernel
theorem d_A_cls_23 : decode b_A_cls 23 = .ok (.getfield 146, 3) := by decide +kernel
theorem d_A_cls_26 : decode b_A_cls 26 = .ok (.if_icmp .ge 45, 3) := by decide +kernel
theorem d_A_cls_29 : decode b_A_cls 29 = .ok (.aload_n 0, 1) := by decide +kernel
theorem d_A_cls_30 : decode b_A_cls 30 = .ok (.getfield 23, 3) := by decide +kernel
theorem d_A_cls_33 : decode b_A_cls 33 = .ok (.iload_n 3, 1) := by decide +kernel
theorem d_A_cls_34 : decode b_A_cls 34 = .ok (.aaload, 1) := by decide +kernel
theorem d_A_cls_35 : decode b_A_cls 35 = .ok (.astore 4, 2) := by decide +kernel
theorem d_A_cls_37 : decode b_A_cls 37 = .ok (.aload 4, 2) := by decide +kernel
theorem d_A_cls_39 : decode b_A_cls 39 = .ok (.ifnull 26, 3) := by decide +kernel
theorem d_A_cls_42 : decode b_A_cls 42 = .ok (.aload 4, 2) := by decide +kernel
theorem d_A_cls_44 : decode b_A_cls 44 = .ok (.aload_n 2, 1) := by decide +kernel
theorem d_A_cls_45 : decode b_A_cls 45 = .ok (.aload_n 0, 1) := by decide +kernel
theorem d_A_cls_46 : decode b_A_cls 46 = .ok (.getfield 47, 3) := by decide +kernel
theorem d_A_cls_49 : decode b_A_cls 49 = .ok (.aload_n 0, 1) := by decide +kernel
theorem d_A_cls_50 : decode b_A_cls 50 = .ok (.getfield 34, 3) := by decide +kernel
theorem d_A_cls_53 : decode b_A_cls 53 = .ok (.invokevirtual 152, 3) := by decide +kernel
theorem d_A_cls_56 : decode b_A_cls 56 = .ok (.ifCond .eq 9, 3) := by decide +kernel
theorem d_A_cls_59 : decode b_A_cls 59 = .ok (.aload 4, 2) := by decide +kernel
theorem d_A_cls_61 : decode b_A_cls 61 = .ok (.getfield 156, 3) := by decide +kernel
theorem d_A_cls_64 : decode b_A_cls 64 = .ok (.ireturn, 1) := by decide +kernel
theorem d_A_cls_65 : decode b_A_cls 65 = .ok (.iinc 3 1, 3) := by decide +kernel
theorem d_A_cls_68 : decode b_A_cls 68 = .ok (.goto (-47), 3) := by decide +kernel
theorem d_A_cls_71 : decode b_A_cls 71 = .ok (.bipush 99, 2) := by decide +kernel
theorem d_A_cls_73 : decode b_A_cls 73 = .ok (.ireturn, 1) := by decide +kernel
theorem d_A_mix_0 : decode b_A_mix 0 = .ok (.aload_n 0, 1) := by decide +kernel
theorem d_A_mix_1 : decode b_A_mix 1 = .ok (.iload_n 1, 1) := by decide +kernel
theorem d_A_mix_2 : decode b_A_mix 2 = .ok (.invokevirtual 57, 3) := by decide +kernel
theorem d_A_mix_5 : decode b_A_mix 5 = .ok (.astore_n 3, 1) := by decide +kernel
theorem d_A_mix_6 : decode b_A_mix 6 = .ok (.aload_n 0, 1) := by decide +kernel
theorem d_A_mix_7 : decode b_A_mix 7 = .ok (.iload_n 2, 1) := by decide +kernel
theorem d_A_mix_8 : decode b_A_mix 8 = .ok (.invokevirtual 57, 3) := by decide +kernel
theorem d_A_mix_11 : decode b_A_mix 11 = .ok (.astore 4, 2) := by decide +kernel
theorem d_A_mix_13 : decode b_A_mix 13 = .ok (.aload_n 3, 1) := by decide +kernel
theorem d_A_mix_14 : decode b_A_mix 14 = .ok (.ifnull 22, 3) := by decide +kernel
theorem d_A_mix_17 : decode b_A_mix 17 = .ok (.aload 4, 2) := by decide +kernel
theorem d_A_mix_19 : decode b_A_mix 19 = .ok (.ifnull 17, 3) := by decide +kernel
theorem d_A_mix_22 : decode b_A_mix 22 = .ok (.iload_n 1, 1) := by decide +kernel
theorem d_A_mix_23 : decode b_A_mix 23 = .ok (.iload_n 2, 1) := by decide +kernel
theorem d_A_mix_24 : decode b_A_mix 24 = .ok (.if_icmp .eq 12, 3) := by decide +kernel
theorem d_A_mix_27 : decode b_A_mix 27 = .ok (.aload_n 0, 1) := by decide +kernel
theorem d_A_mix_28 : decode b_A_mix 28 = .ok (.getfield 44, 3) := by decide +kernel
theorem d_A_mix_31 : decode b_A_mix 31 = .ok (.bipush 8, 2) := by decide +kernel
theorem d_A_mix_33 : decode b_A_mix 33 = .ok (.if_icmp .lt 5, 3) := by decide +kernel
theorem d_A_mix_36 : decode b_A_mix 36 = .ok (.iconst (-1), 1) := by decide +kernel
theorem d_A_mix_37 : decode b_A_mix 37 = .ok (.ireturn, 1) := by decide +kernel
theorem d_A_mix_38 : decode b_A_mix 38 = .ok (.aload_n 3, 1) := by decide +kernel
theorem d_A_mix_39 : decode b_A_mix 39 = .ok (.getfield 61, 3) := by decide +kernel
theorem d_A_mix_42 : decode b_A_mix 42 = .ok (.ifCond .ne 23, 3) := by decide +kernel
theorem d_A_mix_45 : decode b_A_mix 45 = .ok (.aload 4, 2) := by decide +kernel
theorem d_A_mix_47 : decode b_A_mix 47 = .ok (.getfield 61, 3) := by decide +kernel
theorem d_A_mix_50 : decode b_A_mix 50 = .ok (.ifCond .ne 15, 3) := by decide +kernel
theorem d_A_mix_53 : decode b_A_mix 53 = .ok (.aload_n 3, 1) := by decide +kernel
theorem d_A_mix_54 : decode b_A_mix 54 = .ok (.getfield 65, 3) := by decide +kernel
theorem d_A_mix_57 : decode b_A_mix 57 = .ok (.aload 4, 2) := by decide +kernel
theorem d_A_mix_59 : decode b_A_mix 59 = .ok (.getfield 65, 3) := by decide +kernel
theorem d_A_mix_62 : decode b_A_mix 62 = .ok (.if_icmp .eq 5, 3) := by decide +kernel
theorem d_A_mix_65 : decode b_A_mix 65 = .ok (.iconst (-1), 1) := by decide +kernel
theorem d_A_mix_66 : decode b_A_mix 66 = .ok (.ireturn, 1) := by decide +kernel
theorem d_A_mix_67 : decode b_A_mix 67 = .ok (.aload_n 3, 1) := by decide +kernel
theorem d_A_mix_68 : decode b_A_mix 68 = .ok (.iconst 1, 1) := by decide +kernel
theorem d_A_mix_69 : decode b_A_mix 69 = .ok (.putfield 61, 3) := by decide +kernel
theorem d_A_mix_72 : decode b_A_mix 72 = .ok (.aload 4, 2) := by decide +kernel
theorem d_A_mix_74 : decode b_A_mix 74 = .ok (.iconst 1, 1) := by decide +kernel
theorem d_A_mix_75 : decode b_A_mix 75 = .ok (.putfield 61, 3) := by decide +kernel
theorem d_A_mix_78 : decode b_A_mix 78 = .ok (.aload_n 0, 1) := by decide +kernel
theorem d_A_mix_79 : decode b_A_mix 79 = .ok (.aload_n 3, 1) := by decide +kernel
theorem d_A_mix_80 : decode b_A_mix 80 = .ok (.aload 4, 2) := by decide +kernel
theorem d_A_mix_82 : decode b_A_mix 82 = .ok (.invokestatic 159, 3) := by decide +kernel
theorem d_A_mix_85 : decode b_A_mix 85 = .ok (.invokevirtual 53, 3) := by decide +kernel
theorem d_A_mix_88 : decode b_A_mix 88 = .ok (.ireturn, 1) := by decide +kernel
theorem d_A_dispute_0 : decode b_A_dispute 0 = .ok (.iconst 0, 1) := by decide +kernel
theorem d_A_dispute_1 : decode b_A_dispute 1 = .ok (.istore_n 2, 1) := by decide +kernel
theorem d_A_dispute_2 : decode b_A_dispute 2 = .ok (.iconst 0, 1) := by decide +kernel
theorem d_A_dispute_3 : decode b_A_dispute 3 = .ok (.istore_n 3, 1) := by decide +kernel
theorem d_A_dispute_4 : decode b_A_dispute 4 = .ok (.iload_n 3, 1) := by decide +kernel
theorem d_A_dispute_5 : decode b_A_dispute 5 = .ok (.aload_n 0, 1) := by decide +kernel
theorem d_A_dispute_6 : decode b_A_dispute 6 = .ok (.getfield 44, 3) := by decide +kernel
theorem d_A_dispute_9 : decode b_A_dispute 9 = .ok (.if_icmp .ge 52, 3) := by decide +kernel
theorem d_A_dispute_12 : decode b_A_dispute 12 = .ok (.aload_n 0, 1) := by decide +kernel
theorem d_A_dispute_13 : decode b_A_dispute 13 = .ok (.getfield 11, 3) := by decide +kernel
theorem d_A_dispute_16 : decode b_A_dispute 16 = .ok (.iload_n 3, 1) := by decide +kernel
theorem d_A_dispute_17 : decode b_A_dispute 17 = .ok (.aaload, 1) := by decide +kernel
theorem d_A_dispute_18 : decode b_A_dispute 18 = .ok (.astore 4, 2) := by decide +kernel
theorem d_A_dispute_20 : decode b_A_dispute 20 = .ok (.aload 4, 2) := by decide +kernel
theorem d_A_dispute_22 : decode b_A_dispute 22 = .ok (.ifnull 33, 3) := by decide +kernel
theorem d_A_dispute_25 : decode b_A_dispute 25 = .ok (.aload 4, 2) := by decide +kernel
theorem d_A_dispute_27 : decode b_A_dispute 27 = .ok (.getfield 61, 3) := by decide +kernel
theorem d_A_dispute_30 : decode b_A_dispute 30 = .ok (.ifCond .ne 25, 3) := by decide +kernel
theorem d_A_dispute_33 : decode b_A_dispute 33 = .ok (.aload 4, 2) := by decide +kernel
theorem d_A_dispute_35 : decode b_A_dispute 35 = .ok (.aload_n 0, 1) := by decide +kernel
theorem d_A_dispute_36 : decode b_A_dispute 36 = .ok (.getfield 34, 3) := by decide +kernel
theorem d_A_dispute_39 : decode b_A_dispute 39 = .ok (.invokevirtual 163, 3) := by decide +kernel
theorem d_A_dispute_42 : decode b_A_dispute 42 = .ok (.ifCond .eq 13, 3) := by decide +kernel
theorem d_A_dispute_45 : decode b_A_dispute 45 = .ok (.iload_n 2, 1) := by decide +kernel
theorem d_A_dispute_46 : decode b_A_dispute 46 = .ok (.iload_n 1, 1) := by decide +kernel
theorem d_A_dispute_47 : decode b_A_dispute 47 = .ok (.if_icmp .ne 5, 3) := by decide +kernel
theorem d_A_dispute_50 : decode b_A_dispute 50 = .ok (.iload_n 3, 1) := by decide +kernel
theorem d_A_dispute_51 : decode b_A_dispute 51 = .ok (.ireturn, 1) := by decide +kernel
theorem d_A_dispute_52 : decode b_A_dispute 52 = .ok (.iinc 2 1, 3) := by decide +kernel
theorem d_A_dispute_55 : decode b_A_dispute 55 = .ok (.iinc 3 1, 3) := by decide +kernel
theorem d_A_dispute_58 : decode b_A_dispute 58 = .ok (.goto (-54), 3) := by decide +kernel
theorem d_A_dispute_61 : decode b_A_dispute 61 = .ok (.iconst (-1), 1) := by decide +kernel
theorem d_A_dispute_62 : decode b_A_dispute 62 = .ok (.ireturn, 1) := by decide +kernel
theorem d_A_isWithin_0 : decode b_A_isWithin 0 = .ok (.lload_n 0, 1) := by decide +kernel
theorem d_A_isWithin_1 : decode b_A_isWithin 1 = .ok (.lload_n 2, 1) := by decide +kernel
theorem d_A_isWithin_2 : decode b_A_isWithin 2 = .ok (.lcmp, 1) := by decide +kernel
theorem d_A_isWithin_3 : decode b_A_isWithin 3 = .ok (.ifCond .lt 14, 3) := by decide +kernel
theorem d_A_isWithin_6 : decode b_A_isWithin 6 = .ok (.lload_n 0, 1) := by decide +kernel
theorem d_A_isWithin_7 : decode b_A_isWithin 7 = .ok (.lload 4, 2) := by decide +kernel
theorem d_A_isWithin_9 : decode b_A_isWithin 9 = .ok (.lcmp, 1) := by decide +kernel
theorem d_A_isWithin_10 : decode b_A_isWithin 10 = .ok (.ifCond .gt 7, 3) := by decide +kernel
theorem d_A_isWithin_13 : decode b_A_isWithin 13 = .ok (.iconst 1, 1) := by decide +kernel
theorem d_A_isWithin_14 : decode b_A_isWithin 14 = .ok (.goto 4, 3) := by decide +kernel
theorem d_A_isWithin_17 : decode b_A_isWithin 17 = .ok (.iconst 0, 1) := by decide +kernel
theorem d_A_isWithin_18 : decode b_A_isWithin 18 = .ok (.ireturn, 1) := by decide +kernel
theorem d_A_isMetal_0 : decode b_A_isMetal 0 = .ok (.iload_n 0, 1) := by decide +kernel
theorem d_A_isMetal_1 : decode b_A_isMetal 1 = .ok (.ifCond .lt 12, 3) := by decide +kernel
theorem d_A_isMetal_4 : decode b_A_isMetal 4 = .ok (.iload_n 0, 1) := by decide +kernel
theorem d_A_isMetal_5 : decode b_A_isMetal 5 = .ok (.iconst 4, 1) := by decide +kernel
theorem d_A_isMetal_6 : decode b_A_isMetal 6 = .ok (.if_icmp .ge 7, 3) := by decide +kernel
theorem d_A_isMetal_9 : decode b_A_isMetal 9 = .ok (.iconst 1, 1) := by decide +kernel
theorem d_A_isMetal_10 : decode b_A_isMetal 10 = .ok (.goto 4, 3) := by decide +kernel
theorem d_A_isMetal_13 : decode b_A_isMetal 13 = .ok (.iconst 0, 1) := by decide +kernel
theorem d_A_isMetal_14 : decode b_A_isMetal 14 = .ok (.ireturn, 1) := by decide +kernel
theorem d_A_batchAt_0 : decode b_A_batchAt 0 = .ok (.iload_n 1, 1) := by decide +kernel
theorem d_A_batchAt_1 : decode b_A_batchAt 1 = .ok (.ifCond .lt 20, 3) := by decide +kernel
theorem d_A_batchAt_4 : decode b_A_batchAt 4 = .ok (.iload_n 1, 1) := by decide +kernel
theorem d_A_batchAt_5 : decode b_A_batchAt 5 = .ok (.aload_n 0, 1) := by decide +kernel
theorem d_A_batchAt_6 : decode b_A_batchAt 6 = .ok (.getfield 44, 3) := by decide +kernel
theorem d_A_batchAt_9 : decode b_A_batchAt 9 = .ok (.if_icmp .ge 12, 3) := by decide +kernel
theorem d_A_batchAt_12 : decode b_A_batchAt 12 = .ok (.aload_n 0, 1) := by decide +kernel
theorem d_A_batchAt_13 : decode b_A_batchAt 13 = .ok (.getfield 11, 3) := by decide +kernel
theorem d_A_batchAt_16 : decode b_A_batchAt 16 = .ok (.iload_n 1, 1) := by decide +kernel
theorem d_A_batchAt_17 : decode b_A_batchAt 17 = .ok (.aaload, 1) := by decide +kernel
theorem d_A_batchAt_18 : decode b_A_batchAt 18 = .ok (.goto 4, 3) := by decide +kernel
theorem d_A_batchAt_21 : decode b_A_batchAt 21 = .ok (.aconst_null, 1) := by decide +kernel
theorem d_A_batchAt_22 : decode b_A_batchAt 22 = .ok (.areturn, 1) := by decide +kernel
theorem d_A_stageAt_0 : decode b_A_stageAt 0 = .ok (.iload_n 1, 1) := by decide +kernel
theorem d_A_stageAt_1 : decode b_A_stageAt 1 = .ok (.ifCond .lt 20, 3) := by decide +kernel
theorem d_A_stageAt_4 : decode b_A_stageAt 4 = .ok (.iload_n 1, 1) := by decide +kernel
theorem d_A_stageAt_5 : decode b_A_stageAt 5 = .ok (.aload_n 0, 1) := by decide +kernel
theorem d_A_stageAt_6 : decode b_A_stageAt 6 = .ok (.getfield 87, 3) := by decide +kernel
theorem d_A_stageAt_9 : decode b_A_stageAt 9 = .ok (.if_icmp .ge 12, 3) := by decide +kernel
theorem d_A_stageAt_12 : decode b_A_stageAt 12 = .ok (.aload_n 0, 1) := by decide +kernel
theorem d_A_stageAt_13 : decode b_A_stageAt 13 = .ok (.getfield 17, 3) := by decide +kernel
theorem d_A_stageAt_16 : decode b_A_stageAt 16 = .ok (.iload_n 1, 1) := by decide +kernel
theorem d_A_stageAt_17 : decode b_A_stageAt 17 = .ok (.aaload, 1) := by decide +kernel
theorem d_A_stageAt_18 : decode b_A_stageAt 18 = .ok (.goto 4, 3) := by decide +kernel
theorem d_A_stageAt_21 : decode b_A_stageAt 21 = .ok (.aconst_null, 1) := by decide +kernel
theorem d_A_stageAt_22 : decode b_A_stageAt 22 = .ok (.areturn, 1) := by decide +kernel
theorem d_A_keepBatch_0 : decode b_A_keepBatch 0 = .ok (.aload_n 0, 1) := by decide +kernel
theorem d_A_keepBatch_1 : decode b_A_keepBatch 1 = .ok (.getfield 44, 3) := by decide +kernel
theorem d_A_keepBatch_4 : decode b_A_keepBatch 4 = .ok (.bipush 8, 2) := by decide +kernel
theorem d_A_keepBatch_6 : decode b_A_keepBatch 6 = .ok (.if_icmp .lt 5, 3) := by decide +kernel
theorem d_A_keepBatch_9 : decode b_A_keepBatch 9 = .ok (.iconst (-1), 1) := by decide +kernel
theorem d_A_keepBatch_10 : decode b_A_keepBatch 10 = .ok (.ireturn, 1) := by decide +kernel
theorem d_A_keepBatch_11 : decode b_A_keepBatch 11 = .ok (.aload_n 0, 1) := by decide +kernel
theorem d_A_keepBatch_12 : decode b_A_keepBatch 12 = .ok (.getfield 11, 3) := by decide +kernel
theorem d_A_keepBatch_15 : decode b_A_keepBatch 15 = .ok (.aload_n 0, 1) := by decide +kernel
theorem d_A_keepBatch_16 : decode b_A_keepBatch 16 = .ok (.getfield 44, 3) := by decide +kernel
theorem d_A_keepBatch_19 : decode b_A_keepBatch 19 = .ok (.aload_n 1, 1) := by decide +kernel
theorem d_A_keepBatch_20 : decode b_A_keepBatch 20 = .ok (.aastore, 1) := by decide +kernel
theorem d_A_keepBatch_21 : decode b_A_keepBatch 21 = .ok (.aload_n 0, 1) := by decide +kernel
theorem d_A_keepBatch_22 : decode b_A_keepBatch 22 = .ok (.dup, 1) := by decide +kernel
theorem d_A_keepBatch_23 : decode b_A_keepBatch 23 = .ok (.getfield 44, 3) := by decide +kernel
theorem d_A_keepBatch_26 : decode b_A_keepBatch 26 = .ok (.iconst 1, 1) := by decide +kernel
theorem d_A_keepBatch_27 : decode b_A_keepBatch 27 = .ok (.iadd, 1) := by decide +kernel
theorem d_A_keepBatch_28 : decode b_A_keepBatch 28 = .ok (.putfield 44, 3) := by decide +kernel
theorem d_A_keepBatch_31 : decode b_A_keepBatch 31 = .ok (.aload_n 0, 1) := by decide +kernel
theorem d_A_keepBatch_32 : decode b_A_keepBatch 32 = .ok (.getfield 44, 3) := by decide +kernel
theorem d_A_keepBatch_35 : decode b_A_keepBatch 35 = .ok (.iconst 1, 1) := by decide +kernel
theorem d_A_keepBatch_36 : decode b_A_keepBatch 36 = .ok (.isub, 1) := by decide +kernel
theorem d_A_keepBatch_37 : decode b_A_keepBatch 37 = .ok (.ireturn, 1) := by decide +kernel
theorem d_A_passThrough_0 : decode b_A_passThrough 0 = .ok (.aload_n 0, 1) := by decide +kernel
theorem d_A_passThrough_1 : decode b_A_passThrough 1 = .ok (.iload_n 2, 1) := by decide +kernel
theorem d_A_passThrough_2 : decode b_A_passThrough 2 = .ok (.invokevirtual 107, 3) := by decide +kernel
theorem d_A_passThrough_5 : decode b_A_passThrough 5 = .ok (.astore_n 3, 1) := by decide +kernel
theorem d_A_passThrough_6 : decode b_A_passThrough 6 = .ok (.aload_n 3, 1) := by decide +kernel
theorem d_A_passThrough_7 : decode b_A_passThrough 7 = .ok (.ifnonnull 4, 3) := by decide +kernel
theorem d_A_passThrough_10 : decode b_A_passThrough 10 = .ok (.return_, 1) := by decide +kernel
theorem d_A_passThrough_11 : decode b_A_passThrough 11 = .ok (.lconst 0, 1) := by decide +kernel
theorem d_A_passThrough_12 : decode b_A_passThrough 12 = .ok (.lstore 4, 2) := by decide +kernel
theorem d_A_passThrough_14 : decode b_A_passThrough 14 = .ok (.iconst 0, 1) := by decide +kernel
theorem d_A_passThrough_15 : decode b_A_passThrough 15 = .ok (.istore 6, 2) := by decide +kernel
theorem d_A_passThrough_17 : decode b_A_passThrough 17 = .ok (.iload 6, 2) := by decide +kernel
theorem d_A_passThrough_19 : decode b_A_passThrough 19 = .ok (.iconst 4, 1) := by decide +kernel
theorem d_A_passThrough_20 : decode b_A_passThrough 20 = .ok (.if_icmp .ge 74, 3) := by decide +kernel
theorem d_A_passThrough_23 : decode b_A_passThrough 23 = .ok (.aload_n 1, 1) := by decide +kernel
theorem d_A_passThrough_24 : decode b_A_passThrough 24 = .ok (.getfield 77, 3) := by decide +kernel
theorem d_A_passThrough_27 : decode b_A_passThrough 27 = .ok (.iload 6, 2) := by decide +kernel
theorem d_A_passThrough_29 : decode b_A_passThrough 29 = .ok (.laload, 1) := by decide +kernel
theorem d_A_passThrough_30 : decode b_A_passThrough 30 = .ok (.aload_n 3, 1) := by decide +kernel
theorem d_A_passThrough_31 : decode b_A_passThrough 31 = .ok (.iload 6, 2) := by decide +kernel
theorem d_A_passThrough_33 : decode b_A_passThrough 33 = .ok (.invokevirtual 166, 3) := by decide +kernel
theorem d_A_passThrough_36 : decode b_A_passThrough 36 = .ok (.i2l, 1) := by decide +kernel
theorem d_A_passThrough_37 : decode b_A_passThrough 37 = .ok (.lmul, 1) := by decide +kernel
theorem d_A_passThrough_38 : decode b_A_passThrough 38 = .ok (.ldc2_w 90, 3) := by decide +kernel
theorem d_A_passThrough_41 : decode b_A_passThrough 41 = .ok (.ldiv, 1) := by decide +kernel
theorem d_A_passThrough_42 : decode b_A_passThrough 42 = .ok (.lstore 7, 2) := by decide +kernel
theorem d_A_passThrough_44 : decode b_A_passThrough 44 = .ok (.aload_n 1, 1) := by decide +kernel
theorem d_A_passThrough_45 : decode b_A_passThrough 45 = .ok (.getfield 77, 3) := by decide +kernel
theorem d_A_passThrough_48 : decode b_A_passThrough 48 = .ok (.iload 6, 2) := by decide +kernel
theorem d_A_passThrough_50 : decode b_A_passThrough 50 = .ok (.dup2, 1) := by decide +kernel
theorem d_A_passThrough_51 : decode b_A_passThrough 51 = .ok (.laload, 1) := by decide +kernel
theorem d_A_passThrough_52 : decode b_A_passThrough 52 = .ok (.lload 7, 2) := by decide +kernel
theorem d_A_passThrough_54 : decode b_A_passThrough 54 = .ok (.lsub, 1) := by decide +kernel
theorem d_A_passThrough_55 : decode b_A_passThrough 55 = .ok (.lastore, 1) := by decide +kernel
theorem d_A_passThrough_56 : decode b_A_passThrough 56 = .ok (.aload_n 1, 1) := by decide +kernel
theorem d_A_passThrough_57 : decode b_A_passThrough 57 = .ok (.getfield 104, 3) := by decide +kernel
theorem d_A_passThrough_60 : decode b_A_passThrough 60 = .ok (.iload_n 2, 1) := by decide +kernel
theorem d_A_passThrough_61 : decode b_A_passThrough 61 = .ok (.iconst 4, 1) := by decide +kernel
theorem d_A_passThrough_62 : decode b_A_passThrough 62 = .ok (.imul, 1) := by decide +kernel
theorem d_A_passThrough_63 : decode b_A_passThrough 63 = .ok (.iload 6, 2) := by decide +kernel
theorem d_A_passThrough_65 : decode b_A_passThrough 65 = .ok (.iadd, 1) := by decide +kernel
theorem d_A_passThrough_66 : decode b_A_passThrough 66 = .ok (.lload 7, 2) := by decide +kernel
theorem d_A_passThrough_68 : decode b_A_passThrough 68 = .ok (.lastore, 1) := by decide +kernel
theorem d_A_passThrough_69 : decode b_A_passThrough 69 = .ok (.aload_n 3, 1) := by decide +kernel
theorem d_A_passThrough_70 : decode b_A_passThrough 70 = .ok (.getfield 111, 3) := by decide +kernel
theorem d_A_passThrough_73 : decode b_A_passThrough 73 = .ok (.iload 6, 2) := by decide +kernel
theorem d_A_passThrough_75 : decode b_A_passThrough 75 = .ok (.dup2, 1) := by decide +kernel
theorem d_A_passThrough_76 : decode b_A_passThrough 76 = .ok (.laload, 1) := by decide +kernel
theorem d_A_passThrough_77 : decode b_A_passThrough 77 = .ok (.lload 7, 2) := by decide +kernel
theorem d_A_passThrough_79 : decode b_A_passThrough 79 = .ok (.ladd, 1) := by decide +kernel
theorem d_A_passThrough_80 : decode b_A_passThrough 80 = .ok (.lastore, 1) := by decide +kernel
theorem d_A_passThrough_81 : decode b_A_passThrough 81 = .ok (.lload 4, 2) := by decide +kernel
theorem d_A_passThrough_83 : decode b_A_passThrough 83 = .ok (.lload 7, 2) := by decide +kernel
theorem d_A_passThrough_85 : decode b_A_passThrough 85 = .ok (.ladd, 1) := by decide +kernel
theorem d_A_passThrough_86 : decode b_A_passThrough 86 = .ok (.lstore 4, 2) := by decide +kernel
theorem d_A_passThrough_88 : decode b_A_passThrough 88 = .ok (.iinc 6 1, 3) := by decide +kernel
theorem d_A_passThrough_91 : decode b_A_passThrough 91 = .ok (.goto (-74), 3) := by decide +kernel
theorem d_A_passThrough_94 : decode b_A_passThrough 94 = .ok (.aload_n 1, 1) := by decide +kernel
theorem d_A_passThrough_95 : decode b_A_passThrough 95 = .ok (.lconst 0, 1) := by decide +kernel
theorem d_A_passThrough_96 : decode b_A_passThrough 96 = .ok (.aload_n 1, 1) := by decide +kernel
theorem d_A_passThrough_97 : decode b_A_passThrough 97 = .ok (.getfield 81, 3) := by decide +kernel
theorem d_A_passThrough_100 : decode b_A_passThrough 100 = .ok (.lload 4, 2) := by decide +kernel
theorem d_A_passThrough_102 : decode b_A_passThrough 102 = .ok (.ldc2_w 75, 3) := by decide +kernel
theorem d_A_passThrough_105 : decode b_A_passThrough 105 = .ok (.ldiv, 1) := by decide +kernel
theorem d_A_passThrough_106 : decode b_A_passThrough 106 = .ok (.lsub, 1) := by decide +kernel
theorem d_A_passThrough_107 : decode b_A_passThrough 107 = .ok (.invokestatic 169, 3) := by decide +kernel
theorem d_A_passThrough_110 : decode b_A_passThrough 110 = .ok (.putfield 81, 3) := by decide +kernel
theorem d_A_passThrough_113 : decode b_A_passThrough 113 = .ok (.return_, 1) := by decide +kernel
theorem d_A_mixtureOf_0 : decode b_A_mixtureOf 0 = .ok (.new 9, 3) := by decide +kernel
theorem d_A_mixtureOf_3 : decode b_A_mixtureOf 3 = .ok (.dup, 1) := by decide +kernel
theorem d_A_mixtureOf_4 : decode b_A_mixtureOf 4 = .ok (.aload_n 0, 1) := by decide +kernel
theorem d_A_mixtureOf_5 : decode b_A_mixtureOf 5 = .ok (.getfield 81, 3) := by decide +kernel
theorem d_A_mixtureOf_8 : decode b_A_mixtureOf 8 = .ok (.aload_n 1, 1) := by decide +kernel
theorem d_A_mixtureOf_9 : decode b_A_mixtureOf 9 = .ok (.getfield 81, 3) := by decide +kernel
theorem d_A_mixtureOf_12 : decode b_A_mixtureOf 12 = .ok (.ladd, 1) := by decide +kernel
theorem d_A_mixtureOf_13 : decode b_A_mixtureOf 13 = .ok (.aload_n 0, 1) := by decide +kernel
theorem d_A_mixtureOf_14 : decode b_A_mixtureOf 14 = .ok (.getfield 175, 3) := by decide +kernel
theorem d_A_mixtureOf_17 : decode b_A_mixtureOf 17 = .ok (.aload_n 1, 1) := by decide +kernel
theorem d_A_mixtureOf_18 : decode b_A_mixtureOf 18 = .ok (.getfield 175, 3) := by decide +kernel
theorem d_A_mixtureOf_21 : decode b_A_mixtureOf 21 = .ok (.invokestatic 178, 3) := by decide +kernel
theorem d_A_mixtureOf_24 : decode b_A_mixtureOf 24 = .ok (.iconst 1, 1) := by decide +kernel
theorem d_A_mixtureOf_25 : decode b_A_mixtureOf 25 = .ok (.invokespecial 50, 3) := by decide +kernel
theorem d_A_mixtureOf_28 : decode b_A_mixtureOf 28 = .ok (.astore_n 2, 1) := by decide +kernel
theorem d_A_mixtureOf_29 : decode b_A_mixtureOf 29 = .ok (.iconst 0, 1) := by decide +kernel
theorem d_A_mixtureOf_30 : decode b_A_mixtureOf 30 = .ok (.istore_n 3, 1) := by decide +kernel
theorem d_A_mixtureOf_31 : decode b_A_mixtureOf 31 = .ok (.iload_n 3, 1) := by decide +kernel
theorem d_A_mixtureOf_32 : decode b_A_mixtureOf 32 = .ok (.iconst 4, 1) := by decide +kernel
theorem d_A_mixtureOf_33 : decode b_A_mixtureOf 33 = .ok (.if_icmp .ge 28, 3) := by decide +kernel
theorem d_A_mixtureOf_36 : decode b_A_mixtureOf 36 = .ok (.aload_n 2, 1) := by decide +kernel
theorem d_A_mixtureOf_37 : decode b_A_mixtureOf 37 = .ok (.getfield 77, 3) := by decide +kernel
theorem d_A_mixtureOf_40 : decode b_A_mixtureOf 40 = .ok (.iload_n 3, 1) := by decide +kernel
theorem d_A_mixtureOf_41 : decode b_A_mixtureOf 41 = .ok (.aload_n 0, 1) := by decide +kernel
theorem d_A_mixtureOf_42 : decode b_A_mixtureOf 42 = .ok (.getfield 77, 3) := by decide +kernel
theorem d_A_mixtureOf_45 : decode b_A_mixtureOf 45 = .ok (.iload_n 3, 1) := by decide +kernel
theorem d_A_mixtureOf_46 : decode b_A_mixtureOf 46 = .ok (.laload, 1) := by decide +kernel
theorem d_A_mixtureOf_47 : decode b_A_mixtureOf 47 = .ok (.aload_n 1, 1) := by decide +kernel
theorem d_A_mixtureOf_48 : decode b_A_mixtureOf 48 = .ok (.getfield 77, 3) := by decide +kernel
theorem d_A_mixtureOf_51 : decode b_A_mixtureOf 51 = .ok (.iload_n 3, 1) := by decide +kernel
theorem d_A_mixtureOf_52 : decode b_A_mixtureOf 52 = .ok (.laload, 1) := by decide +kernel
theorem d_A_mixtureOf_53 : decode b_A_mixtureOf 53 = .ok (.ladd, 1) := by decide +kernel
theorem d_A_mixtureOf_54 : decode b_A_mixtureOf 54 = .ok (.lastore, 1) := by decide +kernel
theorem d_A_mixtureOf_55 : decode b_A_mixtureOf 55 = .ok (.iinc 3 1, 3) := by decide +kernel
theorem d_A_mixtureOf_58 : decode b_A_mixtureOf 58 = .ok (.goto (-27), 3) := by decide +kernel
theorem d_A_mixtureOf_61 : decode b_A_mixtureOf 61 = .ok (.aload_n 2, 1) := by decide +kernel
theorem d_A_mixtureOf_62 : decode b_A_mixtureOf 62 = .ok (.aload_n 0, 1) := by decide +kernel
theorem d_A_mixtureOf_63 : decode b_A_mixtureOf 63 = .ok (.getfield 65, 3) := by decide +kernel
theorem d_A_mixtureOf_66 : decode b_A_mixtureOf 66 = .ok (.ifCond .eq 14, 3) := by decide +kernel
theorem d_A_mixtureOf_69 : decode b_A_mixtureOf 69 = .ok (.aload_n 1, 1) := by decide +kernel
theorem d_A_mixtureOf_70 : decode b_A_mixtureOf 70 = .ok (.getfield 65, 3) := by decide +kernel
theorem d_A_mixtureOf_73 : decode b_A_mixtureOf 73 = .ok (.ifCond .eq 7, 3) := by decide +kernel
theorem d_A_mixtureOf_76 : decode b_A_mixtureOf 76 = .ok (.iconst 1, 1) := by decide +kernel
theorem d_A_mixtureOf_77 : decode b_A_mixtureOf 77 = .ok (.goto 4, 3) := by decide +kernel
theorem d_A_mixtureOf_80 : decode b_A_mixtureOf 80 = .ok (.iconst 0, 1) := by decide +kernel
theorem d_A_mixtureOf_81 : decode b_A_mixtureOf 81 = .ok (.putfield 65, 3) := by decide +kernel
theorem d_A_mixtureOf_84 : decode b_A_mixtureOf 84 = .ok (.aload_n 2, 1) := by decide +kernel
theorem d_A_mixtureOf_85 : decode b_A_mixtureOf 85 = .ok (.areturn, 1) := by decide +kernel
