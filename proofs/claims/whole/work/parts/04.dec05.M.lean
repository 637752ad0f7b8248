theorem d_M_told_26 : decode b_M_told 26 = .ok (.iadd, 1) := by decide +kernel
theorem d_M_told_27 : decode b_M_told 27 = .ok (.iaload, 1) := by decide +kernel
theorem d_M_told_28 : decode b_M_told 28 = .ok (.istore 6, 2) := by decide +kernel
theorem d_M_told_30 : decode b_M_told 30 = .ok (.aload_n 0, 1) := by decide +kernel
theorem d_M_told_31 : decode b_M_told 31 = .ok (.getfield 57, 3) := by decide +kernel
theorem d_M_told_34 : decode b_M_told 34 = .ok (.iload 4, 2) := by decide +kernel
theorem d_M_told_36 : decode b_M_told 36 = .ok (.iconst 2, 1) := by decide +kernel
theorem d_M_told_37 : decode b_M_told 37 = .ok (.iadd, 1) := by decide +kernel
theorem d_M_told_38 : decode b_M_told 38 = .ok (.iaload, 1) := by decide +kernel
theorem d_M_told_39 : decode b_M_told 39 = .ok (.istore 7, 2) := by decide +kernel
theorem d_M_told_41 : decode b_M_told 41 = .ok (.iload 5, 2) := by decide +kernel
theorem d_M_told_43 : decode b_M_told 43 = .ok (.ifCond .lt 13, 3) := by decide +kernel
theorem d_M_told_46 : decode b_M_told 46 = .ok (.iload 6, 2) := by decide +kernel
theorem d_M_told_48 : decode b_M_told 48 = .ok (.ifCond .lt 8, 3) := by decide +kernel
theorem d_M_told_51 : decode b_M_told 51 = .ok (.iload 7, 2) := by decide +kernel
theorem d_M_told_53 : decode b_M_told 53 = .ok (.ifCond .ge 5, 3) := by decide +kernel
theorem d_M_told_56 : decode b_M_told 56 = .ok (.iconst (-1), 1) := by decide +kernel
theorem d_M_told_57 : decode b_M_told 57 = .ok (.ireturn, 1) := by decide +kernel
theorem d_M_told_58 : decode b_M_told 58 = .ok (.iload 5, 2) := by decide +kernel
theorem d_M_told_60 : decode b_M_told 60 = .ok (.iload 6, 2) := by decide +kernel
theorem d_M_told_62 : decode b_M_told 62 = .ok (.iload 7, 2) := by decide +kernel
theorem d_M_told_64 : decode b_M_told 64 = .ok (.invokestatic 127, 3) := by decide +kernel
theorem d_M_told_67 : decode b_M_told 67 = .ok (.invokestatic 127, 3) := by decide +kernel
theorem d_M_told_70 : decode b_M_told 70 = .ok (.istore 8, 2) := by decide +kernel
theorem d_M_told_72 : decode b_M_told 72 = .ok (.iload 5, 2) := by decide +kernel
theorem d_M_told_74 : decode b_M_told 74 = .ok (.iload 6, 2) := by decide +kernel
theorem d_M_told_76 : decode b_M_told 76 = .ok (.iload 7, 2) := by decide +kernel
theorem d_M_told_78 : decode b_M_told 78 = .ok (.invokestatic 131, 3) := by decide +kernel
theorem d_M_told_81 : decode b_M_told 81 = .ok (.invokestatic 131, 3) := by decide +kernel
theorem d_M_told_84 : decode b_M_told 84 = .ok (.istore 9, 2) := by decide +kernel
theorem d_M_told_86 : decode b_M_told 86 = .ok (.iload_n 3, 1) := by decide +kernel
theorem d_M_told_87 : decode b_M_told 87 = .ok (.ifCond .ne 8, 3) := by decide +kernel
theorem d_M_told_90 : decode b_M_told 90 = .ok (.iload 8, 2) := by decide +kernel
theorem d_M_told_92 : decode b_M_told 92 = .ok (.goto 27, 3) := by decide +kernel
theorem d_M_told_95 : decode b_M_told 95 = .ok (.iload_n 3, 1) := by decide +kernel
theorem d_M_told_96 : decode b_M_told 96 = .ok (.iconst 2, 1) := by decide +kernel
theorem d_M_told_97 : decode b_M_told 97 = .ok (.if_icmp .ne 8, 3) := by decide +kernel
theorem d_M_told_100 : decode b_M_told 100 = .ok (.iload 9, 2) := by decide +kernel
theorem d_M_told_102 : decode b_M_told 102 = .ok (.goto 17, 3) := by decide +kernel
theorem d_M_told_105 : decode b_M_told 105 = .ok (.iload 5, 2) := by decide +kernel
theorem d_M_told_107 : decode b_M_told 107 = .ok (.iload 6, 2) := by decide +kernel
theorem d_M_told_109 : decode b_M_told 109 = .ok (.iadd, 1) := by decide +kernel
theorem d_M_told_110 : decode b_M_told 110 = .ok (.iload 7, 2) := by decide +kernel
theorem d_M_told_112 : decode b_M_told 112 = .ok (.iadd, 1) := by decide +kernel
theorem d_M_told_113 : decode b_M_told 113 = .ok (.iload 8, 2) := by decide +kernel
theorem d_M_told_115 : decode b_M_told 115 = .ok (.isub, 1) := by decide +kernel
theorem d_M_told_116 : decode b_M_told 116 = .ok (.iload 9, 2) := by decide +kernel
theorem d_M_told_118 : decode b_M_told 118 = .ok (.isub, 1) := by decide +kernel
theorem d_M_told_119 : decode b_M_told 119 = .ok (.ireturn, 1) := by decide +kernel
theorem d_M_settled_0 : decode b_M_settled 0 = .ok (.aload_n 0, 1) := by decide +kernel
theorem d_M_settled_1 : decode b_M_settled 1 = .ok (.iload_n 1, 1) := by decide +kernel
theorem d_M_settled_2 : decode b_M_settled 2 = .ok (.invokevirtual 95, 3) := by decide +kernel
theorem d_M_settled_5 : decode b_M_settled 5 = .ok (.ifCond .eq 20, 3) := by decide +kernel
theorem d_M_settled_8 : decode b_M_settled 8 = .ok (.iload_n 2, 1) := by decide +kernel
theorem d_M_settled_9 : decode b_M_settled 9 = .ok (.invokestatic 99, 3) := by decide +kernel
theorem d_M_settled_12 : decode b_M_settled 12 = .ok (.ifCond .eq 13, 3) := by decide +kernel
theorem d_M_settled_15 : decode b_M_settled 15 = .ok (.aload_n 0, 1) := by decide +kernel
theorem d_M_settled_16 : decode b_M_settled 16 = .ok (.iload_n 1, 1) := by decide +kernel
theorem d_M_settled_17 : decode b_M_settled 17 = .ok (.iload_n 2, 1) := by decide +kernel
theorem d_M_settled_18 : decode b_M_settled 18 = .ok (.iconst 1, 1) := by decide +kernel
theorem d_M_settled_19 : decode b_M_settled 19 = .ok (.invokevirtual 134, 3) := by decide +kernel
theorem d_M_settled_22 : decode b_M_settled 22 = .ok (.goto 4, 3) := by decide +kernel
theorem d_M_settled_25 : decode b_M_settled 25 = .ok (.iconst (-1), 1) := by decide +kernel
theorem d_M_settled_26 : decode b_M_settled 26 = .ok (.ireturn, 1) := by decide +kernel
theorem d_M_disputed_0 : decode b_M_disputed 0 = .ok (.aload_n 0, 1) := by decide +kernel
theorem d_M_disputed_1 : decode b_M_disputed 1 = .ok (.iload_n 1, 1) := by decide +kernel
theorem d_M_disputed_2 : decode b_M_disputed 2 = .ok (.invokevirtual 95, 3) := by decide +kernel
theorem d_M_disputed_5 : decode b_M_disputed 5 = .ok (.ifCond .eq 36, 3) := by decide +kernel
theorem d_M_disputed_8 : decode b_M_disputed 8 = .ok (.iload_n 2, 1) := by decide +kernel
theorem d_M_disputed_9 : decode b_M_disputed 9 = .ok (.invokestatic 99, 3) := by decide +kernel
theorem d_M_disputed_12 : decode b_M_disputed 12 = .ok (.ifCond .eq 29, 3) := by decide +kernel
theorem d_M_disputed_15 : decode b_M_disputed 15 = .ok (.aload_n 0, 1) := by decide +kernel
theorem d_M_disputed_16 : decode b_M_disputed 16 = .ok (.iload_n 1, 1) := by decide +kernel
theorem d_M_disputed_17 : decode b_M_disputed 17 = .ok (.iload_n 2, 1) := by decide +kernel
theorem d_M_disputed_18 : decode b_M_disputed 18 = .ok (.iconst 2, 1) := by decide +kernel
theorem d_M_disputed_19 : decode b_M_disputed 19 = .ok (.invokevirtual 134, 3) := by decide +kernel
theorem d_M_disputed_22 : decode b_M_disputed 22 = .ok (.aload_n 0, 1) := by decide +kernel
theorem d_M_disputed_23 : decode b_M_disputed 23 = .ok (.iload_n 1, 1) := by decide +kernel
theorem d_M_disputed_24 : decode b_M_disputed 24 = .ok (.iload_n 2, 1) := by decide +kernel
theorem d_M_disputed_25 : decode b_M_disputed 25 = .ok (.iconst 0, 1) := by decide +kernel
theorem d_M_disputed_26 : decode b_M_disputed 26 = .ok (.invokevirtual 134, 3) := by decide +kernel
theorem d_M_disputed_29 : decode b_M_disputed 29 = .ok (.isub, 1) := by decide +kernel
theorem d_M_disputed_30 : decode b_M_disputed 30 = .ok (.aload_n 0, 1) := by decide +kernel
theorem d_M_disputed_31 : decode b_M_disputed 31 = .ok (.getfield 60, 3) := by decide +kernel
theorem d_M_disputed_34 : decode b_M_disputed 34 = .ok (.if_icmp .le 7, 3) := by decide +kernel
theorem d_M_disputed_37 : decode b_M_disputed 37 = .ok (.iconst 1, 1) := by decide +kernel
theorem d_M_disputed_38 : decode b_M_disputed 38 = .ok (.goto 4, 3) := by decide +kernel
theorem d_M_disputed_41 : decode b_M_disputed 41 = .ok (.iconst 0, 1) := by decide +kernel
theorem d_M_disputed_42 : decode b_M_disputed 42 = .ok (.ireturn, 1) := by decide +kernel
theorem d_M_tolerance_0 : decode b_M_tolerance 0 = .ok (.iload_n 1, 1) := by decide +kernel
theorem d_M_tolerance_1 : decode b_M_tolerance 1 = .ok (.i2l, 1) := by decide +kernel
theorem d_M_tolerance_2 : decode b_M_tolerance 2 = .ok (.lconst 0, 1) := by decide +kernel
theorem d_M_tolerance_3 : decode b_M_tolerance 3 = .ok (.ldc2_w 102, 3) := by decide +kernel
theorem d_M_tolerance_6 : decode b_M_tolerance 6 = .ok (.invokestatic 84, 3) := by decide +kernel
theorem d_M_tolerance_9 : decode b_M_tolerance 9 = .ok (.ifCond .ne 5, 3) := by decide +kernel
theorem d_M_tolerance_12 : decode b_M_tolerance 12 = .ok (.iconst 0, 1) := by decide +kernel
theorem d_M_tolerance_13 : decode b_M_tolerance 13 = .ok (.ireturn, 1) := by decide +kernel
theorem d_M_tolerance_14 : decode b_M_tolerance 14 = .ok (.aload_n 0, 1) := by decide +kernel
theorem d_M_tolerance_15 : decode b_M_tolerance 15 = .ok (.iload_n 1, 1) := by decide +kernel
theorem d_M_tolerance_16 : decode b_M_tolerance 16 = .ok (.putfield 60, 3) := by decide +kernel
theorem d_M_tolerance_19 : decode b_M_tolerance 19 = .ok (.iconst 1, 1) := by decide +kernel
theorem d_M_tolerance_20 : decode b_M_tolerance 20 = .ok (.ireturn, 1) := by decide +kernel
theorem d_M_rule_0 : decode b_M_rule 0 = .ok (.aload_n 0, 1) := by decide +kernel
theorem d_M_rule_1 : decode b_M_rule 1 = .ok (.getfield 138, 3) := by decide +kernel
theorem d_M_rule_4 : decode b_M_rule 4 = .ok (.bipush 8, 2) := by decide +kernel
theorem d_M_rule_6 : decode b_M_rule 6 = .ok (.if_icmp .eq 47, 3) := by decide +kernel
theorem d_M_rule_9 : decode b_M_rule 9 = .ok (.iload_n 1, 1) := by decide +kernel
theorem d_M_rule_10 : decode b_M_rule 10 = .ok (.i2l, 1) := by decide +kernel
theorem d_M_rule_11 : decode b_M_rule 11 = .ok (.lconst 0, 1) := by decide +kernel
theorem d_M_rule_12 : decode b_M_rule 12 = .ok (.ldc2_w 141, 3) := by decide +kernel
theorem d_M_rule_15 : decode b_M_rule 15 = .ok (.invokestatic 84, 3) := by decide +kernel
theorem d_M_rule_18 : decode b_M_rule 18 = .ok (.ifCond .eq 35, 3) := by decide +kernel
theorem d_M_rule_21 : decode b_M_rule 21 = .ok (.iload_n 2, 1) := by decide +kernel
theorem d_M_rule_22 : decode b_M_rule 22 = .ok (.invokestatic 99, 3) := by decide +kernel
theorem d_M_rule_25 : decode b_M_rule 25 = .ok (.ifCond .eq 28, 3) := by decide +kernel
theorem d_M_rule_28 : decode b_M_rule 28 = .ok (.iload_n 3, 1) := by decide +kernel
theorem d_M_rule_29 : decode b_M_rule 29 = .ok (.i2l, 1) := by decide +kernel
theorem d_M_rule_30 : decode b_M_rule 30 = .ok (.lconst 0, 1) := by decide +kernel
theorem d_M_rule_31 : decode b_M_rule 31 = .ok (.ldc2_w 102, 3) := by decide +kernel
theorem d_M_rule_34 : decode b_M_rule 34 = .ok (.invokestatic 84, 3) := by decide +kernel
theorem d_M_rule_37 : decode b_M_rule 37 = .ok (.ifCond .eq 16, 3) := by decide +kernel
theorem d_M_rule_40 : decode b_M_rule 40 = .ok (.iload 4, 2) := by decide +kernel
theorem d_M_rule_42 : decode b_M_rule 42 = .ok (.i2l, 1) := by decide +kernel
theorem d_M_rule_43 : decode b_M_rule 43 = .ok (.lconst 0, 1) := by decide +kernel
theorem d_M_rule_44 : decode b_M_rule 44 = .ok (.ldc2_w 104, 3) := by decide +kernel
theorem d_M_rule_47 : decode b_M_rule 47 = .ok (.invokestatic 84, 3) := by decide +kernel
theorem d_M_rule_50 : decode b_M_rule 50 = .ok (.ifCond .ne 5, 3) := by decide +kernel
theorem d_M_rule_53 : decode b_M_rule 53 = .ok (.iconst (-1), 1) := by decide +kernel
theorem d_M_rule_54 : decode b_M_rule 54 = .ok (.ireturn, 1) := by decide +kernel
theorem d_M_rule_55 : decode b_M_rule 55 = .ok (.aload_n 0, 1) := by decide +kernel
theorem d_M_rule_56 : decode b_M_rule 56 = .ok (.getfield 64, 3) := by decide +kernel
theorem d_M_rule_59 : decode b_M_rule 59 = .ok (.aload_n 0, 1) := by decide +kernel
theorem d_M_rule_60 : decode b_M_rule 60 = .ok (.getfield 138, 3) := by decide +kernel
theorem d_M_rule_63 : decode b_M_rule 63 = .ok (.iload_n 1, 1) := by decide +kernel
theorem d_M_rule_64 : decode b_M_rule 64 = .ok (.iastore, 1) := by decide +kernel
theorem d_M_rule_65 : decode b_M_rule 65 = .ok (.aload_n 0, 1) := by decide +kernel
theorem d_M_rule_66 : decode b_M_rule 66 = .ok (.getfield 67, 3) := by decide +kernel
theorem d_M_rule_69 : decode b_M_rule 69 = .ok (.aload_n 0, 1) := by decide +kernel
theorem d_M_rule_70 : decode b_M_rule 70 = .ok (.getfield 138, 3) := by decide +kernel
theorem d_M_rule_73 : decode b_M_rule 73 = .ok (.iload_n 2, 1) := by decide +kernel
theorem d_M_rule_74 : decode b_M_rule 74 = .ok (.iastore, 1) := by decide +kernel
theorem d_M_rule_75 : decode b_M_rule 75 = .ok (.aload_n 0, 1) := by decide +kernel
theorem d_M_rule_76 : decode b_M_rule 76 = .ok (.getfield 70, 3) := by decide +kernel
theorem d_M_rule_79 : decode b_M_rule 79 = .ok (.aload_n 0, 1) := by decide +kernel
theorem d_M_rule_80 : decode b_M_rule 80 = .ok (.getfield 138, 3) := by decide +kernel
theorem d_M_rule_83 : decode b_M_rule 83 = .ok (.iload_n 3, 1) := by decide +kernel
theorem d_M_rule_84 : decode b_M_rule 84 = .ok (.iastore, 1) := by decide +kernel
theorem d_M_rule_85 : decode b_M_rule 85 = .ok (.aload_n 0, 1) := by decide +kernel
theorem d_M_rule_86 : decode b_M_rule 86 = .ok (.getfield 73, 3) := by decide +kernel
theorem d_M_rule_89 : decode b_M_rule 89 = .ok (.aload_n 0, 1) := by decide +kernel
theorem d_M_rule_90 : decode b_M_rule 90 = .ok (.getfield 138, 3) := by decide +kernel
theorem d_M_rule_93 : decode b_M_rule 93 = .ok (.iload 4, 2) := by decide +kernel
theorem d_M_rule_95 : decode b_M_rule 95 = .ok (.iastore, 1) := by decide +kernel
theorem d_M_rule_96 : decode b_M_rule 96 = .ok (.aload_n 0, 1) := by decide +kernel
theorem d_M_rule_97 : decode b_M_rule 97 = .ok (.dup, 1) := by decide +kernel
theorem d_M_rule_98 : decode b_M_rule 98 = .ok (.getfield 138, 3) := by decide +kernel
theorem d_M_rule_101 : decode b_M_rule 101 = .ok (.iconst 1, 1) := by decide +kernel
theorem d_M_rule_102 : decode b_M_rule 102 = .ok (.iadd, 1) := by decide +kernel
theorem d_M_rule_103 : decode b_M_rule 103 = .ok (.putfield 138, 3) := by decide +kernel
theorem d_M_rule_106 : decode b_M_rule 106 = .ok (.aload_n 0, 1) := by decide +kernel
theorem d_M_rule_107 : decode b_M_rule 107 = .ok (.getfield 138, 3) := by decide +kernel
theorem d_M_rule_110 : decode b_M_rule 110 = .ok (.iconst 1, 1) := by decide +kernel
theorem d_M_rule_111 : decode b_M_rule 111 = .ok (.isub, 1) := by decide +kernel
theorem d_M_rule_112 : decode b_M_rule 112 = .ok (.ireturn, 1) := by decide +kernel
theorem d_M_cls_0 : decode b_M_cls 0 = .ok (.aload_n 0, 1) := by decide +kernel
theorem d_M_cls_1 : decode b_M_cls 1 = .ok (.iload_n 1, 1) := by decide +kernel
theorem d_M_cls_2 : decode b_M_cls 2 = .ok (.invokevirtual 95, 3) := by decide +kernel
theorem d_M_cls_5 : decode b_M_cls 5 = .ok (.ifCond .eq 12, 3) := by decide +kernel
theorem d_M_cls_8 : decode b_M_cls 8 = .ok (.aload_n 0, 1) := by decide +kernel
theorem d_M_cls_9 : decode b_M_cls 9 = .ok (.getfield 17, 3) := by decide +kernel
theorem d_M_cls_12 : decode b_M_cls 12 = .ok (.iload_n 1, 1) := by decide +kernel
theorem d_M_cls_13 : decode b_M_cls 13 = .ok (.baload, 1) := by decide +kernel
theorem d_M_cls_14 : decode b_M_cls 14 = .ok (.ifCond .eq 5, 3) := by decide +kernel
theorem d_M_cls_17 : decode b_M_cls 17 = .ok (.iconst (-1), 1) := by decide +kernel
theorem d_M_cls_18 : decode b_M_cls 18 = .ok (.ireturn, 1) := by decide +kernel
theorem d_M_cls_19 : decode b_M_cls 19 = .ok (.iconst 0, 1) := by decide +kernel
theorem d_M_cls_20 : decode b_M_cls 20 = .ok (.istore_n 2, 1) := by decide +kernel
theorem d_M_cls_21 : decode b_M_cls 21 = .ok (.iload_n 2, 1) := by decide +kernel
theorem d_M_cls_22 : decode b_M_cls 22 = .ok (.aload_n 0, 1) := by decide +kernel
theorem d_M_cls_23 : decode b_M_cls 23 = .ok (.getfield 138, 3) := by decide +kernel
theorem d_M_cls_26 : decode b_M_cls 26 = .ok (.if_icmp .ge 77, 3) := by decide +kernel
theorem d_M_cls_29 : decode b_M_cls 29 = .ok (.aload_n 0, 1) := by decide +kernel
theorem d_M_cls_30 : decode b_M_cls 30 = .ok (.iload_n 1, 1) := by decide +kernel
theorem d_M_cls_31 : decode b_M_cls 31 = .ok (.aload_n 0, 1) := by decide +kernel
theorem d_M_cls_32 : decode b_M_cls 32 = .ok (.getfield 67, 3) := by decide +kernel
theorem d_M_cls_35 : decode b_M_cls 35 = .ok (.iload_n 2, 1) := by decide +kernel
theorem d_M_cls_36 : decode b_M_cls 36 = .ok (.iaload, 1) := by decide +kernel
theorem d_M_cls_37 : decode b_M_cls 37 = .ok (.iconst 1, 1) := by decide +kernel
theorem d_M_cls_38 : decode b_M_cls 38 = .ok (.invokevirtual 134, 3) := by decide +kernel
theorem d_M_cls_41 : decode b_M_cls 41 = .ok (.istore_n 3, 1) := by decide +kernel
theorem d_M_cls_42 : decode b_M_cls 42 = .ok (.iload_n 3, 1) := by decide +kernel
theorem d_M_cls_43 : decode b_M_cls 43 = .ok (.ifCond .lt 54, 3) := by decide +kernel
theorem d_M_cls_46 : decode b_M_cls 46 = .ok (.aload_n 0, 1) := by decide +kernel
theorem d_M_cls_47 : decode b_M_cls 47 = .ok (.iload_n 1, 1) := by decide +kernel
theorem d_M_cls_48 : decode b_M_cls 48 = .ok (.aload_n 0, 1) := by decide +kernel
theorem d_M_cls_49 : decode b_M_cls 49 = .ok (.getfield 67, 3) := by decide +kernel
theorem d_M_cls_52 : decode b_M_cls 52 = .ok (.iload_n 2, 1) := by decide +kernel
theorem d_M_cls_53 : decode b_M_cls 53 = .ok (.iaload, 1) := by decide +kernel
theorem d_M_cls_54 : decode b_M_cls 54 = .ok (.invokevirtual 143, 3) := by decide +kernel
theorem d_M_cls_57 : decode b_M_cls 57 = .ok (.ifCond .ne 40, 3) := by decide +kernel
theorem d_M_cls_60 : decode b_M_cls 60 = .ok (.iload_n 3, 1) := by decide +kernel
theorem d_M_cls_61 : decode b_M_cls 61 = .ok (.aload_n 0, 1) := by decide +kernel
theorem d_M_cls_62 : decode b_M_cls 62 = .ok (.getfield 70, 3) := by decide +kernel
theorem d_M_cls_65 : decode b_M_cls 65 = .ok (.iload_n 2, 1) := by decide +kernel
theorem d_M_cls_66 : decode b_M_cls 66 = .ok (.iaload, 1) := by decide +kernel
theorem d_M_cls_67 : decode b_M_cls 67 = .ok (.if_icmp .gt 30, 3) := by decide +kernel
theorem d_M_cls_70 : decode b_M_cls 70 = .ok (.aload_n 0, 1) := by decide +kernel
theorem d_M_cls_71 : decode b_M_cls 71 = .ok (.getfield 73, 3) := by decide +kernel
theorem d_M_cls_74 : decode b_M_cls 74 = .ok (.iload_n 2, 1) := by decide +kernel
theorem d_M_cls_75 : decode b_M_cls 75 = .ok (.iaload, 1) := by decide +kernel
theorem d_M_cls_76 : decode b_M_cls 76 = .ok (.aload_n 0, 1) := by decide +kernel
theorem d_M_cls_77 : decode b_M_cls 77 = .ok (.getfield 88, 3) := by decide +kernel
theorem d_M_cls_80 : decode b_M_cls 80 = .ok (.aload_n 0, 1) := by decide +kernel
theorem d_M_cls_81 : decode b_M_cls 81 = .ok (.getfield 13, 3) := by decide +kernel
theorem d_M_cls_84 : decode b_M_cls 84 = .ok (.iload_n 1, 1) := by decide +kernel
theorem d_M_cls_85 : decode b_M_cls 85 = .ok (.iaload, 1) := by decide +kernel
theorem d_M_cls_86 : decode b_M_cls 86 = .ok (.isub, 1) := by decide +kernel
theorem d_M_cls_87 : decode b_M_cls 87 = .ok (.if_icmp .gt 10, 3) := by decide +kernel
theorem d_M_cls_90 : decode b_M_cls 90 = .ok (.aload_n 0, 1) := by decide +kernel
theorem d_M_cls_91 : decode b_M_cls 91 = .ok (.getfield 64, 3) := by decide +kernel
theorem d_M_cls_94 : decode b_M_cls 94 = .ok (.iload_n 2, 1) := by decide +kernel
theorem d_M_cls_95 : decode b_M_cls 95 = .ok (.iaload, 1) := by decide +kernel
theorem d_M_cls_96 : decode b_M_cls 96 = .ok (.ireturn, 1) := by decide +kernel
theorem d_M_cls_97 : decode b_M_cls 97 = .ok (.iinc 2 1, 3) := by decide +kernel
theorem d_M_cls_100 : decode b_M_cls 100 = .ok (.goto (-79), 3) := by decide +kernel
theorem d_M_cls_103 : decode b_M_cls 103 = .ok (.bipush 99, 2) := by decide +kernel
theorem d_M_cls_105 : decode b_M_cls 105 = .ok (.ireturn, 1) := by decide +kernel
theorem d_M_mix_0 : decode b_M_mix 0 = .ok (.aload_n 0, 1) := by decide +kernel
theorem d_M_mix_1 : decode b_M_mix 1 = .ok (.iload_n 1, 1) := by decide +kernel
theorem d_M_mix_2 : decode b_M_mix 2 = .ok (.invokevirtual 95, 3) := by decide +kernel
theorem d_M_mix_5 : decode b_M_mix 5 = .ok (.ifCond .eq 58, 3) := by decide +kernel
theorem d_M_mix_8 : decode b_M_mix 8 = .ok (.aload_n 0, 1) := by decide +kernel
theorem d_M_mix_9 : decode b_M_mix 9 = .ok (.iload_n 2, 1) := by decide +kernel
theorem d_M_mix_10 : decode b_M_mix 10 = .ok (.invokevirtual 95, 3) := by decide +kernel
theorem d_M_mix_13 : decode b_M_mix 13 = .ok (.ifCond .eq 50, 3) := by decide +kernel
theorem d_M_mix_16 : decode b_M_mix 16 = .ok (.iload_n 1, 1) := by decide +kernel
theorem d_M_mix_17 : decode b_M_mix 17 = .ok (.iload_n 2, 1) := by decide +kernel
theorem d_M_mix_18 : decode b_M_mix 18 = .ok (.if_icmp .eq 45, 3) := by decide +kernel
theorem d_M_mix_21 : decode b_M_mix 21 = .ok (.aload_n 0, 1) := by decide +kernel
theorem d_M_mix_22 : decode b_M_mix 22 = .ok (.getfield 17, 3) := by decide +kernel
theorem d_M_mix_25 : decode b_M_mix 25 = .ok (.iload_n 1, 1) := by decide +kernel
theorem d_M_mix_26 : decode b_M_mix 26 = .ok (.baload, 1) := by decide +kernel
theorem d_M_mix_27 : decode b_M_mix 27 = .ok (.ifCond .ne 36, 3) := by decide +kernel
theorem d_M_mix_30 : decode b_M_mix 30 = .ok (.aload_n 0, 1) := by decide +kernel
theorem d_M_mix_31 : decode b_M_mix 31 = .ok (.getfield 17, 3) := by decide +kernel
theorem d_M_mix_34 : decode b_M_mix 34 = .ok (.iload_n 2, 1) := by decide +kernel
theorem d_M_mix_35 : decode b_M_mix 35 = .ok (.baload, 1) := by decide +kernel
theorem d_M_mix_36 : decode b_M_mix 36 = .ok (.ifCond .ne 27, 3) := by decide +kernel
theorem d_M_mix_39 : decode b_M_mix 39 = .ok (.aload_n 0, 1) := by decide +kernel
theorem d_M_mix_40 : decode b_M_mix 40 = .ok (.getfield 24, 3) := by decide +kernel
theorem d_M_mix_43 : decode b_M_mix 43 = .ok (.iload_n 1, 1) := by decide +kernel
theorem d_M_mix_44 : decode b_M_mix 44 = .ok (.baload, 1) := by decide +kernel
theorem d_M_mix_45 : decode b_M_mix 45 = .ok (.aload_n 0, 1) := by decide +kernel
theorem d_M_mix_46 : decode b_M_mix 46 = .ok (.getfield 24, 3) := by decide +kernel
theorem d_M_mix_49 : decode b_M_mix 49 = .ok (.iload_n 2, 1) := by decide +kernel
theorem d_M_mix_50 : decode b_M_mix 50 = .ok (.baload, 1) := by decide +kernel
theorem d_M_mix_51 : decode b_M_mix 51 = .ok (.if_icmp .ne 12, 3) := by decide +kernel
theorem d_M_mix_54 : decode b_M_mix 54 = .ok (.aload_n 0, 1) := by decide +kernel
theorem d_M_mix_55 : decode b_M_mix 55 = .ok (.getfield 76, 3) := by decide +kernel
theorem d_M_mix_58 : decode b_M_mix 58 = .ok (.bipush 8, 2) := by decide +kernel
theorem d_M_mix_60 : decode b_M_mix 60 = .ok (.if_icmp .ne 5, 3) := by decide +kernel
theorem d_M_mix_63 : decode b_M_mix 63 = .ok (.iconst (-1), 1) := by decide +kernel
theorem d_M_mix_64 : decode b_M_mix 64 = .ok (.ireturn, 1) := by decide +kernel
theorem d_M_mix_65 : decode b_M_mix 65 = .ok (.aload_n 0, 1) := by decide +kernel
theorem d_M_mix_66 : decode b_M_mix 66 = .ok (.aload_n 0, 1) := by decide +kernel
theorem d_M_mix_67 : decode b_M_mix 67 = .ok (.getfield 7, 3) := by decide +kernel
theorem d_M_mix_70 : decode b_M_mix 70 = .ok (.iload_n 1, 1) := by decide +kernel
theorem d_M_mix_71 : decode b_M_mix 71 = .ok (.laload, 1) := by decide +kernel
theorem d_M_mix_72 : decode b_M_mix 72 = .ok (.aload_n 0, 1) := by decide +kernel
theorem d_M_mix_73 : decode b_M_mix 73 = .ok (.getfield 7, 3) := by decide +kernel
theorem d_M_mix_76 : decode b_M_mix 76 = .ok (.iload_n 2, 1) := by decide +kernel
theorem d_M_mix_77 : decode b_M_mix 77 = .ok (.laload, 1) := by decide +kernel
theorem d_M_mix_78 : decode b_M_mix 78 = .ok (.ladd, 1) := by decide +kernel
theorem d_M_mix_79 : decode b_M_mix 79 = .ok (.aload_n 0, 1) := by decide +kernel
theorem d_M_mix_80 : decode b_M_mix 80 = .ok (.getfield 13, 3) := by decide +kernel
theorem d_M_mix_83 : decode b_M_mix 83 = .ok (.iload_n 1, 1) := by decide +kernel
theorem d_M_mix_84 : decode b_M_mix 84 = .ok (.iaload, 1) := by decide +kernel
theorem d_M_mix_85 : decode b_M_mix 85 = .ok (.aload_n 0, 1) := by decide +kernel
theorem d_M_mix_86 : decode b_M_mix 86 = .ok (.getfield 13, 3) := by decide +kernel
theorem d_M_mix_89 : decode b_M_mix 89 = .ok (.iload_n 2, 1) := by decide +kernel
theorem d_M_mix_90 : decode b_M_mix 90 = .ok (.iaload, 1) := by decide +kernel
theorem d_M_mix_91 : decode b_M_mix 91 = .ok (.invokestatic 131, 3) := by decide +kernel
theorem d_M_mix_94 : decode b_M_mix 94 = .ok (.invokevirtual 91, 3) := by decide +kernel
theorem d_M_mix_97 : decode b_M_mix 97 = .ok (.istore_n 3, 1) := by decide +kernel
theorem d_M_mix_98 : decode b_M_mix 98 = .ok (.iconst 0, 1) := by decide +kernel
theorem d_M_mix_99 : decode b_M_mix 99 = .ok (.istore 4, 2) := by decide +kernel
theorem d_M_mix_101 : decode b_M_mix 101 = .ok (.iload 4, 2) := by decide +kernel
theorem d_M_mix_103 : decode b_M_mix 103 = .ok (.iconst 4, 1) := by decide +kernel
theorem d_M_mix_104 : decode b_M_mix 104 = .ok (.if_icmp .ge 43, 3) := by decide +kernel
theorem d_M_mix_107 : decode b_M_mix 107 = .ok (.aload_n 0, 1) := by decide +kernel
theorem d_M_mix_108 : decode b_M_mix 108 = .ok (.getfield 30, 3) := by decide +kernel
theorem d_M_mix_111 : decode b_M_mix 111 = .ok (.iconst 4, 1) := by decide +kernel
theorem d_M_mix_112 : decode b_M_mix 112 = .ok (.iload_n 3, 1) := by decide +kernel
theorem d_M_mix_113 : decode b_M_mix 113 = .ok (.imul, 1) := by decide +kernel
theorem d_M_mix_114 : decode b_M_mix 114 = .ok (.iload 4, 2) := by decide +kernel
theorem d_M_mix_116 : decode b_M_mix 116 = .ok (.iadd, 1) := by decide +kernel
theorem d_M_mix_117 : decode b_M_mix 117 = .ok (.aload_n 0, 1) := by decide +kernel
theorem d_M_mix_118 : decode b_M_mix 118 = .ok (.getfield 30, 3) := by decide +kernel
theorem d_M_mix_121 : decode b_M_mix 121 = .ok (.iconst 4, 1) := by decide +kernel
theorem d_M_mix_122 : decode b_M_mix 122 = .ok (.iload_n 1, 1) := by decide +kernel
theorem d_M_mix_123 : decode b_M_mix 123 = .ok (.imul, 1) := by decide +kernel
theorem d_M_mix_124 : decode b_M_mix 124 = .ok (.iload 4, 2) := by decide +kernel
theorem d_M_mix_126 : decode b_M_mix 126 = .ok (.iadd, 1) := by decide +kernel
theorem d_M_mix_127 : decode b_M_mix 127 = .ok (.laload, 1) := by decide +kernel
theorem d_M_mix_128 : decode b_M_mix 128 = .ok (.aload_n 0, 1) := by decide +kernel
theorem d_M_mix_129 : decode b_M_mix 129 = .ok (.getfield 30, 3) := by decide +kernel
theorem d_M_mix_132 : decode b_M_mix 132 = .ok (.iconst 4, 1) := by decide +kernel
theorem d_M_mix_133 : decode b_M_mix 133 = .ok (.iload_n 2, 1) := by decide +kernel
theorem d_M_mix_134 : decode b_M_mix 134 = .ok (.imul, 1) := by decide +kernel
theorem d_M_mix_135 : decode b_M_mix 135 = .ok (.iload 4, 2) := by decide +kernel
theorem d_M_mix_137 : decode b_M_mix 137 = .ok (.iadd, 1) := by decide +kernel
theorem d_M_mix_138 : decode b_M_mix 138 = .ok (.laload, 1) := by decide +kernel
theorem d_M_mix_139 : decode b_M_mix 139 = .ok (.ladd, 1) := by decide +kernel
theorem d_M_mix_140 : decode b_M_mix 140 = .ok (.lastore, 1) := by decide +kernel
theorem d_M_mix_141 : decode b_M_mix 141 = .ok (.iinc 4 1, 3) := by decide +kernel
theorem d_M_mix_144 : decode b_M_mix 144 = .ok (.goto (-43), 3) := by decide +kernel
theorem d_M_mix_147 : decode b_M_mix 147 = .ok (.aload_n 0, 1) := by decide +kernel
theorem d_M_mix_148 : decode b_M_mix 148 = .ok (.getfield 21, 3) := by decide +kernel
theorem d_M_mix_151 : decode b_M_mix 151 = .ok (.iload_n 3, 1) := by decide +kernel
theorem d_M_mix_152 : decode b_M_mix 152 = .ok (.iconst 1, 1) := by decide +kernel
theorem d_M_mix_153 : decode b_M_mix 153 = .ok (.bastore, 1) := by decide +kernel
theorem d_M_mix_154 : decode b_M_mix 154 = .ok (.aload_n 0, 1) := by decide +kernel
theorem d_M_mix_155 : decode b_M_mix 155 = .ok (.getfield 24, 3) := by decide +kernel
theorem d_M_mix_158 : decode b_M_mix 158 = .ok (.iload_n 3, 1) := by decide +kernel
theorem d_M_mix_159 : decode b_M_mix 159 = .ok (.aload_n 0, 1) := by decide +kernel
theorem d_M_mix_160 : decode b_M_mix 160 = .ok (.getfield 24, 3) := by decide +kernel
theorem d_M_mix_163 : decode b_M_mix 163 = .ok (.iload_n 1, 1) := by decide +kernel
theorem d_M_mix_164 : decode b_M_mix 164 = .ok (.baload, 1) := by decide +kernel
theorem d_M_mix_165 : decode b_M_mix 165 = .ok (.bastore, 1) := by decide +kernel
theorem d_M_mix_166 : decode b_M_mix 166 = .ok (.aload_n 0, 1) := by decide +kernel
theorem d_M_mix_167 : decode b_M_mix 167 = .ok (.getfield 17, 3) := by decide +kernel
theorem d_M_mix_170 : decode b_M_mix 170 = .ok (.iload_n 1, 1) := by decide +kernel
theorem d_M_mix_171 : decode b_M_mix 171 = .ok (.iconst 1, 1) := by decide +kernel
theorem d_M_mix_172 : decode b_M_mix 172 = .ok (.bastore, 1) := by decide +kernel
theorem d_M_mix_173 : decode b_M_mix 173 = .ok (.aload_n 0, 1) := by decide +kernel
theorem d_M_mix_174 : decode b_M_mix 174 = .ok (.getfield 17, 3) := by decide +kernel
theorem d_M_mix_177 : decode b_M_mix 177 = .ok (.iload_n 2, 1) := by decide +kernel
theorem d_M_mix_178 : decode b_M_mix 178 = .ok (.iconst 1, 1) := by decide +kernel
theorem d_M_mix_179 : decode b_M_mix 179 = .ok (.bastore, 1) := by decide +kernel
theorem d_M_mix_180 : decode b_M_mix 180 = .ok (.iload_n 3, 1) := by decide +kernel
theorem d_M_mix_181 : decode b_M_mix 181 = .ok (.ireturn, 1) := by decide +kernel
theorem d_M_dispute_0 : decode b_M_dispute 0 = .ok (.iconst 0, 1) := by decide +kernel
theorem d_M_dispute_1 : decode b_M_dispute 1 = .ok (.istore_n 2, 1) := by decide +kernel
theorem d_M_dispute_2 : decode b_M_dispute 2 = .ok (.iconst 0, 1) := by decide +kernel
theorem d_M_dispute_3 : decode b_M_dispute 3 = .ok (.istore_n 3, 1) := by decide +kernel
theorem d_M_dispute_4 : decode b_M_dispute 4 = .ok (.iload_n 3, 1) := by decide +kernel
theorem d_M_dispute_5 : decode b_M_dispute 5 = .ok (.aload_n 0, 1) := by decide +kernel
theorem d_M_dispute_6 : decode b_M_dispute 6 = .ok (.getfield 76, 3) := by decide +kernel
theorem d_M_dispute_9 : decode b_M_dispute 9 = .ok (.if_icmp .ge 73, 3) := by decide +kernel
theorem d_M_dispute_12 : decode b_M_dispute 12 = .ok (.iconst 0, 1) := by decide +kernel
theorem d_M_dispute_13 : decode b_M_dispute 13 = .ok (.istore 4, 2) := by decide +kernel
theorem d_M_dispute_15 : decode b_M_dispute 15 = .ok (.iconst 0, 1) := by decide +kernel
theorem d_M_dispute_16 : decode b_M_dispute 16 = .ok (.istore 5, 2) := by decide +kernel
theorem d_M_dispute_18 : decode b_M_dispute 18 = .ok (.iload 5, 2) := by decide +kernel
theorem d_M_dispute_20 : decode b_M_dispute 20 = .ok (.iconst 4, 1) := by decide +kernel
theorem d_M_dispute_21 : decode b_M_dispute 21 = .ok (.if_icmp .ge 31, 3) := by decide +kernel
theorem d_M_dispute_24 : decode b_M_dispute 24 = .ok (.iload 4, 2) := by decide +kernel
theorem d_M_dispute_26 : decode b_M_dispute 26 = .ok (.ifCond .ne 13, 3) := by decide +kernel
theorem d_M_dispute_29 : decode b_M_dispute 29 = .ok (.aload_n 0, 1) := by decide +kernel
theorem d_M_dispute_30 : decode b_M_dispute 30 = .ok (.iload_n 3, 1) := by decide +kernel
theorem d_M_dispute_31 : decode b_M_dispute 31 = .ok (.iload 5, 2) := by decide +kernel
theorem d_M_dispute_33 : decode b_M_dispute 33 = .ok (.invokevirtual 143, 3) := by decide +kernel
theorem d_M_dispute_36 : decode b_M_dispute 36 = .ok (.ifCond .eq 7, 3) := by decide +kernel
theorem d_M_dispute_39 : decode b_M_dispute 39 = .ok (.iconst 1, 1) := by decide +kernel
theorem d_M_dispute_40 : decode b_M_dispute 40 = .ok (.goto 4, 3) := by decide +kernel
theorem d_M_dispute_43 : decode b_M_dispute 43 = .ok (.iconst 0, 1) := by decide +kernel
theorem d_M_dispute_44 : decode b_M_dispute 44 = .ok (.istore 4, 2) := by decide +kernel
theorem d_M_dispute_46 : decode b_M_dispute 46 = .ok (.iinc 5 1, 3) := by decide +kernel
theorem d_M_dispute_49 : decode b_M_dispute 49 = .ok (.goto (-31), 3) := by decide +kernel
theorem d_M_dispute_52 : decode b_M_dispute 52 = .ok (.iload 4, 2) := by decide +kernel
theorem d_M_dispute_54 : decode b_M_dispute 54 = .ok (.ifCond .eq 22, 3) := by decide +kernel
theorem d_M_dispute_57 : decode b_M_dispute 57 = .ok (.aload_n 0, 1) := by decide +kernel
theorem d_M_dispute_58 : decode b_M_dispute 58 = .ok (.getfield 17, 3) := by decide +kernel
theorem d_M_dispute_61 : decode b_M_dispute 61 = .ok (.iload_n 3, 1) := by decide +kernel
theorem d_M_dispute_62 : decode b_M_dispute 62 = .ok (.baload, 1) := by decide +kernel
theorem d_M_dispute_63 : decode b_M_dispute 63 = .ok (.ifCond .ne 13, 3) := by decide +kernel
theorem d_M_dispute_66 : decode b_M_dispute 66 = .ok (.iload_n 2, 1) := by decide +kernel
theorem d_M_dispute_67 : decode b_M_dispute 67 = .ok (.iload_n 1, 1) := by decide +kernel
theorem d_M_dispute_68 : decode b_M_dispute 68 = .ok (.if_icmp .ne 5, 3) := by decide +kernel
theorem d_M_dispute_71 : decode b_M_dispute 71 = .ok (.iload_n 3, 1) := by decide +kernel
theorem d_M_dispute_72 : decode b_M_dispute 72 = .ok (.ireturn, 1) := by decide +kernel
theorem d_M_dispute_73 : decode b_M_dispute 73 = .ok (.iinc 2 1, 3) := by decide +kernel
theorem d_M_dispute_76 : decode b_M_dispute 76 = .ok (.iinc 3 1, 3) := by decide +kernel
theorem d_M_dispute_79 : decode b_M_dispute 79 = .ok (.goto (-75), 3) := by decide +kernel
theorem d_M_dispute_82 : decode b_M_dispute 82 = .ok (.iconst (-1), 1) := by decide +kernel
theorem d_M_dispute_83 : decode b_M_dispute 83 = .ok (.ireturn, 1) := by decide +kernel
