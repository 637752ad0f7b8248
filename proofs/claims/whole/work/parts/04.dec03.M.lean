theorem d_M_init_0 : decode b_M_init 0 = .ok (.aload_n 0, 1) := by decide +kernel
theorem d_M_init_1 : decode b_M_init 1 = .ok (.invokespecial 1, 3) := by decide +kernel
theorem d_M_init_4 : decode b_M_init 4 = .ok (.aload_n 0, 1) := by decide +kernel
theorem d_M_init_5 : decode b_M_init 5 = .ok (.bipush 8, 2) := by decide +kernel
theorem d_M_init_7 : decode b_M_init 7 = .ok (.newarray .long, 2) := by decide +kernel
theorem d_M_init_9 : decode b_M_init 9 = .ok (.putfield 7, 3) := by decide +kernel
theorem d_M_init_12 : decode b_M_init 12 = .ok (.aload_n 0, 1) := by decide +kernel
theorem d_M_init_13 : decode b_M_init 13 = .ok (.bipush 8, 2) := by decide +kernel
theorem d_M_init_15 : decode b_M_init 15 = .ok (.newarray .int, 2) := by decide +kernel
theorem d_M_init_17 : decode b_M_init 17 = .ok (.putfield 13, 3) := by decide +kernel
theorem d_M_init_20 : decode b_M_init 20 = .ok (.aload_n 0, 1) := by decide +kernel
theorem d_M_init_21 : decode b_M_init 21 = .ok (.bipush 8, 2) := by decide +kernel
theorem d_M_init_23 : decode b_M_init 23 = .ok (.newarray .boolean, 2) := by decide +kernel
theorem d_M_init_25 : decode b_M_init 25 = .ok (.putfield 17, 3) := by decide +kernel
theorem d_M_init_28 : decode b_M_init 28 = .ok (.aload_n 0, 1) := by decide +kernel
theorem d_M_init_29 : decode b_M_init 29 = .ok (.bipush 8, 2) := by decide +kernel
theorem d_M_init_31 : decode b_M_init 31 = .ok (.newarray .boolean, 2) := by decide +kernel
theorem d_M_init_33 : decode b_M_init 33 = .ok (.putfield 21, 3) := by decide +kernel
theorem d_M_init_36 : decode b_M_init 36 = .ok (.aload_n 0, 1) := by decide +kernel
theorem d_M_init_37 : decode b_M_init 37 = .ok (.bipush 8, 2) := by decide +kernel
theorem d_M_init_39 : decode b_M_init 39 = .ok (.newarray .boolean, 2) := by decide +kernel
theorem d_M_init_41 : decode b_M_init 41 = .ok (.putfield 24, 3) := by decide +kernel
theorem d_M_init_44 : decode b_M_init 44 = .ok (.aload_n 0, 1) := by decide +kernel
theorem d_M_init_45 : decode b_M_init 45 = .ok (.bipush 8, 2) := by decide +kernel
theorem d_M_init_47 : decode b_M_init 47 = .ok (.newarray .int, 2) := by decide +kernel
theorem d_M_init_49 : decode b_M_init 49 = .ok (.putfield 27, 3) := by decide +kernel
theorem d_M_init_52 : decode b_M_init 52 = .ok (.aload_n 0, 1) := by decide +kernel
theorem d_M_init_53 : decode b_M_init 53 = .ok (.bipush 32, 2) := by decide +kernel
theorem d_M_init_55 : decode b_M_init 55 = .ok (.newarray .long, 2) := by decide +kernel
theorem d_M_init_57 : decode b_M_init 57 = .ok (.putfield 30, 3) := by decide +kernel
theorem d_M_init_60 : decode b_M_init 60 = .ok (.aload_n 0, 1) := by decide +kernel
theorem d_M_init_61 : decode b_M_init 61 = .ok (.sipush 192, 3) := by decide +kernel
theorem d_M_init_64 : decode b_M_init 64 = .ok (.newarray .long, 2) := by decide +kernel
theorem d_M_init_66 : decode b_M_init 66 = .ok (.putfield 33, 3) := by decide +kernel
theorem d_M_init_69 : decode b_M_init 69 = .ok (.aload_n 0, 1) := by decide +kernel
theorem d_M_init_70 : decode b_M_init 70 = .ok (.bipush 6, 2) := by decide +kernel
theorem d_M_init_72 : decode b_M_init 72 = .ok (.newarray .int, 2) := by decide +kernel
theorem d_M_init_74 : decode b_M_init 74 = .ok (.putfield 36, 3) := by decide +kernel
theorem d_M_init_77 : decode b_M_init 77 = .ok (.aload_n 0, 1) := by decide +kernel
theorem d_M_init_78 : decode b_M_init 78 = .ok (.bipush 6, 2) := by decide +kernel
theorem d_M_init_80 : decode b_M_init 80 = .ok (.newarray .int, 2) := by decide +kernel
theorem d_M_init_82 : decode b_M_init 82 = .ok (.putfield 39, 3) := by decide +kernel
theorem d_M_init_85 : decode b_M_init 85 = .ok (.aload_n 0, 1) := by decide +kernel
theorem d_M_init_86 : decode b_M_init 86 = .ok (.bipush 6, 2) := by decide +kernel
theorem d_M_init_88 : decode b_M_init 88 = .ok (.newarray .int, 2) := by decide +kernel
theorem d_M_init_90 : decode b_M_init 90 = .ok (.putfield 42, 3) := by decide +kernel
theorem d_M_init_93 : decode b_M_init 93 = .ok (.aload_n 0, 1) := by decide +kernel
theorem d_M_init_94 : decode b_M_init 94 = .ok (.bipush 24, 2) := by decide +kernel
theorem d_M_init_96 : decode b_M_init 96 = .ok (.newarray .long, 2) := by decide +kernel
theorem d_M_init_98 : decode b_M_init 98 = .ok (.putfield 45, 3) := by decide +kernel
theorem d_M_init_101 : decode b_M_init 101 = .ok (.aload_n 0, 1) := by decide +kernel
theorem d_M_init_102 : decode b_M_init 102 = .ok (.iconst 4, 1) := by decide +kernel
theorem d_M_init_103 : decode b_M_init 103 = .ok (.newarray .int, 2) := by decide +kernel
theorem d_M_init_105 : decode b_M_init 105 = .ok (.putfield 48, 3) := by decide +kernel
theorem d_M_init_108 : decode b_M_init 108 = .ok (.aload_n 0, 1) := by decide +kernel
theorem d_M_init_109 : decode b_M_init 109 = .ok (.bipush 24, 2) := by decide +kernel
theorem d_M_init_111 : decode b_M_init 111 = .ok (.newarray .int, 2) := by decide +kernel
theorem d_M_init_113 : decode b_M_init 113 = .ok (.putfield 51, 3) := by decide +kernel
theorem d_M_init_116 : decode b_M_init 116 = .ok (.aload_n 0, 1) := by decide +kernel
theorem d_M_init_117 : decode b_M_init 117 = .ok (.bipush 24, 2) := by decide +kernel
theorem d_M_init_119 : decode b_M_init 119 = .ok (.newarray .long, 2) := by decide +kernel
theorem d_M_init_121 : decode b_M_init 121 = .ok (.putfield 54, 3) := by decide +kernel
theorem d_M_init_124 : decode b_M_init 124 = .ok (.aload_n 0, 1) := by decide +kernel
theorem d_M_init_125 : decode b_M_init 125 = .ok (.bipush 96, 2) := by decide +kernel
theorem d_M_init_127 : decode b_M_init 127 = .ok (.newarray .int, 2) := by decide +kernel
theorem d_M_init_129 : decode b_M_init 129 = .ok (.putfield 57, 3) := by decide +kernel
theorem d_M_init_132 : decode b_M_init 132 = .ok (.aload_n 0, 1) := by decide +kernel
theorem d_M_init_133 : decode b_M_init 133 = .ok (.bipush 50, 2) := by decide +kernel
theorem d_M_init_135 : decode b_M_init 135 = .ok (.putfield 60, 3) := by decide +kernel
theorem d_M_init_138 : decode b_M_init 138 = .ok (.aload_n 0, 1) := by decide +kernel
theorem d_M_init_139 : decode b_M_init 139 = .ok (.bipush 8, 2) := by decide +kernel
theorem d_M_init_141 : decode b_M_init 141 = .ok (.newarray .int, 2) := by decide +kernel
theorem d_M_init_143 : decode b_M_init 143 = .ok (.putfield 64, 3) := by decide +kernel
theorem d_M_init_146 : decode b_M_init 146 = .ok (.aload_n 0, 1) := by decide +kernel
theorem d_M_init_147 : decode b_M_init 147 = .ok (.bipush 8, 2) := by decide +kernel
theorem d_M_init_149 : decode b_M_init 149 = .ok (.newarray .int, 2) := by decide +kernel
theorem d_M_init_151 : decode b_M_init 151 = .ok (.putfield 67, 3) := by decide +kernel
theorem d_M_init_154 : decode b_M_init 154 = .ok (.aload_n 0, 1) := by decide +kernel
theorem d_M_init_155 : decode b_M_init 155 = .ok (.bipush 8, 2) := by decide +kernel
theorem d_M_init_157 : decode b_M_init 157 = .ok (.newarray .int, 2) := by decide +kernel
theorem d_M_init_159 : decode b_M_init 159 = .ok (.putfield 70, 3) := by decide +kernel
theorem d_M_init_162 : decode b_M_init 162 = .ok (.aload_n 0, 1) := by decide +kernel
theorem d_M_init_163 : decode b_M_init 163 = .ok (.bipush 8, 2) := by decide +kernel
theorem d_M_init_165 : decode b_M_init 165 = .ok (.newarray .int, 2) := by decide +kernel
theorem d_M_init_167 : decode b_M_init 167 = .ok (.putfield 73, 3) := by decide +kernel
theorem d_M_init_170 : decode b_M_init 170 = .ok (.return_, 1) := by decide +kernel
theorem d_M_isIn_0 : decode b_M_isIn 0 = .ok (.lload_n 0, 1) := by decide +kernel
theorem d_M_isIn_1 : decode b_M_isIn 1 = .ok (.lload_n 2, 1) := by decide +kernel
theorem d_M_isIn_2 : decode b_M_isIn 2 = .ok (.lcmp, 1) := by decide +kernel
theorem d_M_isIn_3 : decode b_M_isIn 3 = .ok (.ifCond .lt 14, 3) := by decide +kernel
theorem d_M_isIn_6 : decode b_M_isIn 6 = .ok (.lload_n 0, 1) := by decide +kernel
theorem d_M_isIn_7 : decode b_M_isIn 7 = .ok (.lload 4, 2) := by decide +kernel
theorem d_M_isIn_9 : decode b_M_isIn 9 = .ok (.lcmp, 1) := by decide +kernel
theorem d_M_isIn_10 : decode b_M_isIn 10 = .ok (.ifCond .gt 7, 3) := by decide +kernel
theorem d_M_isIn_13 : decode b_M_isIn 13 = .ok (.iconst 1, 1) := by decide +kernel
theorem d_M_isIn_14 : decode b_M_isIn 14 = .ok (.goto 4, 3) := by decide +kernel
theorem d_M_isIn_17 : decode b_M_isIn 17 = .ok (.iconst 0, 1) := by decide +kernel
theorem d_M_isIn_18 : decode b_M_isIn 18 = .ok (.ireturn, 1) := by decide +kernel
theorem d_M_isBatch_0 : decode b_M_isBatch 0 = .ok (.iload_n 1, 1) := by decide +kernel
theorem d_M_isBatch_1 : decode b_M_isBatch 1 = .ok (.ifCond .lt 15, 3) := by decide +kernel
theorem d_M_isBatch_4 : decode b_M_isBatch 4 = .ok (.iload_n 1, 1) := by decide +kernel
theorem d_M_isBatch_5 : decode b_M_isBatch 5 = .ok (.aload_n 0, 1) := by decide +kernel
theorem d_M_isBatch_6 : decode b_M_isBatch 6 = .ok (.getfield 76, 3) := by decide +kernel
theorem d_M_isBatch_9 : decode b_M_isBatch 9 = .ok (.if_icmp .ge 7, 3) := by decide +kernel
theorem d_M_isBatch_12 : decode b_M_isBatch 12 = .ok (.iconst 1, 1) := by decide +kernel
theorem d_M_isBatch_13 : decode b_M_isBatch 13 = .ok (.goto 4, 3) := by decide +kernel
theorem d_M_isBatch_16 : decode b_M_isBatch 16 = .ok (.iconst 0, 1) := by decide +kernel
theorem d_M_isBatch_17 : decode b_M_isBatch 17 = .ok (.ireturn, 1) := by decide +kernel
theorem d_M_isStage_0 : decode b_M_isStage 0 = .ok (.iload_n 1, 1) := by decide +kernel
theorem d_M_isStage_1 : decode b_M_isStage 1 = .ok (.ifCond .lt 15, 3) := by decide +kernel
theorem d_M_isStage_4 : decode b_M_isStage 4 = .ok (.iload_n 1, 1) := by decide +kernel
theorem d_M_isStage_5 : decode b_M_isStage 5 = .ok (.aload_n 0, 1) := by decide +kernel
theorem d_M_isStage_6 : decode b_M_isStage 6 = .ok (.getfield 79, 3) := by decide +kernel
theorem d_M_isStage_9 : decode b_M_isStage 9 = .ok (.if_icmp .ge 7, 3) := by decide +kernel
theorem d_M_isStage_12 : decode b_M_isStage 12 = .ok (.iconst 1, 1) := by decide +kernel
theorem d_M_isStage_13 : decode b_M_isStage 13 = .ok (.goto 4, 3) := by decide +kernel
theorem d_M_isStage_16 : decode b_M_isStage 16 = .ok (.iconst 0, 1) := by decide +kernel
theorem d_M_isStage_17 : decode b_M_isStage 17 = .ok (.ireturn, 1) := by decide +kernel
theorem d_M_isMetal_0 : decode b_M_isMetal 0 = .ok (.iload_n 0, 1) := by decide +kernel
theorem d_M_isMetal_1 : decode b_M_isMetal 1 = .ok (.ifCond .lt 12, 3) := by decide +kernel
theorem d_M_isMetal_4 : decode b_M_isMetal 4 = .ok (.iload_n 0, 1) := by decide +kernel
theorem d_M_isMetal_5 : decode b_M_isMetal 5 = .ok (.iconst 4, 1) := by decide +kernel
theorem d_M_isMetal_6 : decode b_M_isMetal 6 = .ok (.if_icmp .ge 7, 3) := by decide +kernel
theorem d_M_isMetal_9 : decode b_M_isMetal 9 = .ok (.iconst 1, 1) := by decide +kernel
theorem d_M_isMetal_10 : decode b_M_isMetal 10 = .ok (.goto 4, 3) := by decide +kernel
theorem d_M_isMetal_13 : decode b_M_isMetal 13 = .ok (.iconst 0, 1) := by decide +kernel
theorem d_M_isMetal_14 : decode b_M_isMetal 14 = .ok (.ireturn, 1) := by decide +kernel
theorem d_M_add_0 : decode b_M_add 0 = .ok (.aload_n 0, 1) := by decide +kernel
theorem d_M_add_1 : decode b_M_add 1 = .ok (.getfield 7, 3) := by decide +kernel
theorem d_M_add_4 : decode b_M_add 4 = .ok (.aload_n 0, 1) := by decide +kernel
theorem d_M_add_5 : decode b_M_add 5 = .ok (.getfield 76, 3) := by decide +kernel
theorem d_M_add_8 : decode b_M_add 8 = .ok (.lload_n 1, 1) := by decide +kernel
theorem d_M_add_9 : decode b_M_add 9 = .ok (.lastore, 1) := by decide +kernel
theorem d_M_add_10 : decode b_M_add 10 = .ok (.aload_n 0, 1) := by decide +kernel
theorem d_M_add_11 : decode b_M_add 11 = .ok (.getfield 13, 3) := by decide +kernel
theorem d_M_add_14 : decode b_M_add 14 = .ok (.aload_n 0, 1) := by decide +kernel
theorem d_M_add_15 : decode b_M_add 15 = .ok (.getfield 76, 3) := by decide +kernel
theorem d_M_add_18 : decode b_M_add 18 = .ok (.iload_n 3, 1) := by decide +kernel
theorem d_M_add_19 : decode b_M_add 19 = .ok (.iastore, 1) := by decide +kernel
theorem d_M_add_20 : decode b_M_add 20 = .ok (.aload_n 0, 1) := by decide +kernel
theorem d_M_add_21 : decode b_M_add 21 = .ok (.getfield 27, 3) := by decide +kernel
theorem d_M_add_24 : decode b_M_add 24 = .ok (.aload_n 0, 1) := by decide +kernel
theorem d_M_add_25 : decode b_M_add 25 = .ok (.getfield 76, 3) := by decide +kernel
theorem d_M_add_28 : decode b_M_add 28 = .ok (.iconst (-1), 1) := by decide +kernel
theorem d_M_add_29 : decode b_M_add 29 = .ok (.iastore, 1) := by decide +kernel
theorem d_M_add_30 : decode b_M_add 30 = .ok (.iconst 0, 1) := by decide +kernel
theorem d_M_add_31 : decode b_M_add 31 = .ok (.istore 4, 2) := by decide +kernel
theorem d_M_add_33 : decode b_M_add 33 = .ok (.iload 4, 2) := by decide +kernel
theorem d_M_add_35 : decode b_M_add 35 = .ok (.bipush 12, 2) := by decide +kernel
theorem d_M_add_37 : decode b_M_add 37 = .ok (.if_icmp .ge 25, 3) := by decide +kernel
theorem d_M_add_40 : decode b_M_add 40 = .ok (.aload_n 0, 1) := by decide +kernel
theorem d_M_add_41 : decode b_M_add 41 = .ok (.getfield 57, 3) := by decide +kernel
theorem d_M_add_44 : decode b_M_add 44 = .ok (.bipush 12, 2) := by decide +kernel
theorem d_M_add_46 : decode b_M_add 46 = .ok (.aload_n 0, 1) := by decide +kernel
theorem d_M_add_47 : decode b_M_add 47 = .ok (.getfield 76, 3) := by decide +kernel
theorem d_M_add_50 : decode b_M_add 50 = .ok (.imul, 1) := by decide +kernel
theorem d_M_add_51 : decode b_M_add 51 = .ok (.iload 4, 2) := by decide +kernel
theorem d_M_add_53 : decode b_M_add 53 = .ok (.iadd, 1) := by decide +kernel
theorem d_M_add_54 : decode b_M_add 54 = .ok (.iconst (-1), 1) := by decide +kernel
theorem d_M_add_55 : decode b_M_add 55 = .ok (.iastore, 1) := by decide +kernel
theorem d_M_add_56 : decode b_M_add 56 = .ok (.iinc 4 1, 3) := by decide +kernel
theorem d_M_add_59 : decode b_M_add 59 = .ok (.goto (-26), 3) := by decide +kernel
theorem d_M_add_62 : decode b_M_add 62 = .ok (.aload_n 0, 1) := by decide +kernel
theorem d_M_add_63 : decode b_M_add 63 = .ok (.dup, 1) := by decide +kernel
theorem d_M_add_64 : decode b_M_add 64 = .ok (.getfield 76, 3) := by decide +kernel
theorem d_M_add_67 : decode b_M_add 67 = .ok (.iconst 1, 1) := by decide +kernel
theorem d_M_add_68 : decode b_M_add 68 = .ok (.iadd, 1) := by decide +kernel
theorem d_M_add_69 : decode b_M_add 69 = .ok (.putfield 76, 3) := by decide +kernel
theorem d_M_add_72 : decode b_M_add 72 = .ok (.aload_n 0, 1) := by decide +kernel
theorem d_M_add_73 : decode b_M_add 73 = .ok (.getfield 76, 3) := by decide +kernel
theorem d_M_add_76 : decode b_M_add 76 = .ok (.iconst 1, 1) := by decide +kernel
theorem d_M_add_77 : decode b_M_add 77 = .ok (.isub, 1) := by decide +kernel
theorem d_M_add_78 : decode b_M_add 78 = .ok (.ireturn, 1) := by decide +kernel
theorem d_M_batch_0 : decode b_M_batch 0 = .ok (.aload_n 0, 1) := by decide +kernel
theorem d_M_batch_1 : decode b_M_batch 1 = .ok (.getfield 76, 3) := by decide +kernel
theorem d_M_batch_4 : decode b_M_batch 4 = .ok (.bipush 8, 2) := by decide +kernel
theorem d_M_batch_6 : decode b_M_batch 6 = .ok (.if_icmp .eq 14, 3) := by decide +kernel
theorem d_M_batch_9 : decode b_M_batch 9 = .ok (.lload_n 1, 1) := by decide +kernel
theorem d_M_batch_10 : decode b_M_batch 10 = .ok (.lconst 1, 1) := by decide +kernel
theorem d_M_batch_11 : decode b_M_batch 11 = .ok (.ldc2_w 82, 3) := by decide +kernel
theorem d_M_batch_14 : decode b_M_batch 14 = .ok (.invokestatic 84, 3) := by decide +kernel
theorem d_M_batch_17 : decode b_M_batch 17 = .ok (.ifCond .ne 7, 3) := by decide +kernel
theorem d_M_batch_20 : decode b_M_batch 20 = .ok (.iconst (-1), 1) := by decide +kernel
theorem d_M_batch_21 : decode b_M_batch 21 = .ok (.goto 12, 3) := by decide +kernel
theorem d_M_batch_24 : decode b_M_batch 24 = .ok (.aload_n 0, 1) := by decide +kernel
theorem d_M_batch_25 : decode b_M_batch 25 = .ok (.lload_n 1, 1) := by decide +kernel
theorem d_M_batch_26 : decode b_M_batch 26 = .ok (.aload_n 0, 1) := by decide +kernel
theorem d_M_batch_27 : decode b_M_batch 27 = .ok (.getfield 88, 3) := by decide +kernel
theorem d_M_batch_30 : decode b_M_batch 30 = .ok (.invokevirtual 91, 3) := by decide +kernel
theorem d_M_batch_33 : decode b_M_batch 33 = .ok (.ireturn, 1) := by decide +kernel
theorem d_M_parts_0 : decode b_M_parts 0 = .ok (.aload_n 0, 1) := by decide +kernel
theorem d_M_parts_1 : decode b_M_parts 1 = .ok (.iload_n 1, 1) := by decide +kernel
theorem d_M_parts_2 : decode b_M_parts 2 = .ok (.invokevirtual 95, 3) := by decide +kernel
theorem d_M_parts_5 : decode b_M_parts 5 = .ok (.ifCond .eq 49, 3) := by decide +kernel
theorem d_M_parts_8 : decode b_M_parts 8 = .ok (.iload_n 2, 1) := by decide +kernel
theorem d_M_parts_9 : decode b_M_parts 9 = .ok (.invokestatic 99, 3) := by decide +kernel
theorem d_M_parts_12 : decode b_M_parts 12 = .ok (.ifCond .eq 42, 3) := by decide +kernel
theorem d_M_parts_15 : decode b_M_parts 15 = .ok (.iload_n 3, 1) := by decide +kernel
theorem d_M_parts_16 : decode b_M_parts 16 = .ok (.i2l, 1) := by decide +kernel
theorem d_M_parts_17 : decode b_M_parts 17 = .ok (.lconst 0, 1) := by decide +kernel
theorem d_M_parts_18 : decode b_M_parts 18 = .ok (.ldc2_w 102, 3) := by decide +kernel
theorem d_M_parts_21 : decode b_M_parts 21 = .ok (.invokestatic 84, 3) := by decide +kernel
theorem d_M_parts_24 : decode b_M_parts 24 = .ok (.ifCond .eq 30, 3) := by decide +kernel
theorem d_M_parts_27 : decode b_M_parts 27 = .ok (.aload_n 0, 1) := by decide +kernel
theorem d_M_parts_28 : decode b_M_parts 28 = .ok (.getfield 17, 3) := by decide +kernel
theorem d_M_parts_31 : decode b_M_parts 31 = .ok (.iload_n 1, 1) := by decide +kernel
theorem d_M_parts_32 : decode b_M_parts 32 = .ok (.baload, 1) := by decide +kernel
theorem d_M_parts_33 : decode b_M_parts 33 = .ok (.ifCond .ne 21, 3) := by decide +kernel
theorem d_M_parts_36 : decode b_M_parts 36 = .ok (.aload_n 0, 1) := by decide +kernel
theorem d_M_parts_37 : decode b_M_parts 37 = .ok (.getfield 24, 3) := by decide +kernel
theorem d_M_parts_40 : decode b_M_parts 40 = .ok (.iload_n 1, 1) := by decide +kernel
theorem d_M_parts_41 : decode b_M_parts 41 = .ok (.baload, 1) := by decide +kernel
theorem d_M_parts_42 : decode b_M_parts 42 = .ok (.ifCond .ne 12, 3) := by decide +kernel
theorem d_M_parts_45 : decode b_M_parts 45 = .ok (.aload_n 0, 1) := by decide +kernel
theorem d_M_parts_46 : decode b_M_parts 46 = .ok (.getfield 21, 3) := by decide +kernel
theorem d_M_parts_49 : decode b_M_parts 49 = .ok (.iload_n 1, 1) := by decide +kernel
theorem d_M_parts_50 : decode b_M_parts 50 = .ok (.baload, 1) := by decide +kernel
theorem d_M_parts_51 : decode b_M_parts 51 = .ok (.ifCond .eq 5, 3) := by decide +kernel
theorem d_M_parts_54 : decode b_M_parts 54 = .ok (.iconst 0, 1) := by decide +kernel
theorem d_M_parts_55 : decode b_M_parts 55 = .ok (.ireturn, 1) := by decide +kernel
theorem d_M_parts_56 : decode b_M_parts 56 = .ok (.aload_n 0, 1) := by decide +kernel
theorem d_M_parts_57 : decode b_M_parts 57 = .ok (.getfield 30, 3) := by decide +kernel
theorem d_M_parts_60 : decode b_M_parts 60 = .ok (.iconst 4, 1) := by decide +kernel
theorem d_M_parts_61 : decode b_M_parts 61 = .ok (.iload_n 1, 1) := by decide +kernel
theorem d_M_parts_62 : decode b_M_parts 62 = .ok (.imul, 1) := by decide +kernel
theorem d_M_parts_63 : decode b_M_parts 63 = .ok (.iload_n 2, 1) := by decide +kernel
theorem d_M_parts_64 : decode b_M_parts 64 = .ok (.iadd, 1) := by decide +kernel
theorem d_M_parts_65 : decode b_M_parts 65 = .ok (.aload_n 0, 1) := by decide +kernel
theorem d_M_parts_66 : decode b_M_parts 66 = .ok (.getfield 7, 3) := by decide +kernel
theorem d_M_parts_69 : decode b_M_parts 69 = .ok (.iload_n 1, 1) := by decide +kernel
theorem d_M_parts_70 : decode b_M_parts 70 = .ok (.laload, 1) := by decide +kernel
theorem d_M_parts_71 : decode b_M_parts 71 = .ok (.iload_n 3, 1) := by decide +kernel
theorem d_M_parts_72 : decode b_M_parts 72 = .ok (.i2l, 1) := by decide +kernel
theorem d_M_parts_73 : decode b_M_parts 73 = .ok (.lmul, 1) := by decide +kernel
theorem d_M_parts_74 : decode b_M_parts 74 = .ok (.lastore, 1) := by decide +kernel
theorem d_M_parts_75 : decode b_M_parts 75 = .ok (.iconst 1, 1) := by decide +kernel
theorem d_M_parts_76 : decode b_M_parts 76 = .ok (.ireturn, 1) := by decide +kernel
theorem d_M_today_0 : decode b_M_today 0 = .ok (.iload_n 1, 1) := by decide +kernel
theorem d_M_today_1 : decode b_M_today 1 = .ok (.i2l, 1) := by decide +kernel
theorem d_M_today_2 : decode b_M_today 2 = .ok (.aload_n 0, 1) := by decide +kernel
theorem d_M_today_3 : decode b_M_today 3 = .ok (.getfield 88, 3) := by decide +kernel
theorem d_M_today_6 : decode b_M_today 6 = .ok (.i2l, 1) := by decide +kernel
theorem d_M_today_7 : decode b_M_today 7 = .ok (.ldc2_w 104, 3) := by decide +kernel
theorem d_M_today_10 : decode b_M_today 10 = .ok (.invokestatic 84, 3) := by decide +kernel
theorem d_M_today_13 : decode b_M_today 13 = .ok (.ifCond .ne 5, 3) := by decide +kernel
theorem d_M_today_16 : decode b_M_today 16 = .ok (.iconst 0, 1) := by decide +kernel
theorem d_M_today_17 : decode b_M_today 17 = .ok (.ireturn, 1) := by decide +kernel
theorem d_M_today_18 : decode b_M_today 18 = .ok (.aload_n 0, 1) := by decide +kernel
theorem d_M_today_19 : decode b_M_today 19 = .ok (.iload_n 1, 1) := by decide +kernel
theorem d_M_today_20 : decode b_M_today 20 = .ok (.putfield 88, 3) := by decide +kernel
theorem d_M_today_23 : decode b_M_today 23 = .ok (.iconst 1, 1) := by decide +kernel
theorem d_M_today_24 : decode b_M_today 24 = .ok (.ireturn, 1) := by decide +kernel
theorem d_M_left_0 : decode b_M_left 0 = .ok (.aload_n 0, 1) := by decide +kernel
theorem d_M_left_1 : decode b_M_left 1 = .ok (.iload_n 1, 1) := by decide +kernel
theorem d_M_left_2 : decode b_M_left 2 = .ok (.invokevirtual 95, 3) := by decide +kernel
theorem d_M_left_5 : decode b_M_left 5 = .ok (.ifCond .eq 23, 3) := by decide +kernel
theorem d_M_left_8 : decode b_M_left 8 = .ok (.iload_n 2, 1) := by decide +kernel
theorem d_M_left_9 : decode b_M_left 9 = .ok (.invokestatic 99, 3) := by decide +kernel
theorem d_M_left_12 : decode b_M_left 12 = .ok (.ifCond .eq 16, 3) := by decide +kernel
theorem d_M_left_15 : decode b_M_left 15 = .ok (.aload_n 0, 1) := by decide +kernel
theorem d_M_left_16 : decode b_M_left 16 = .ok (.getfield 30, 3) := by decide +kernel
theorem d_M_left_19 : decode b_M_left 19 = .ok (.iconst 4, 1) := by decide +kernel
theorem d_M_left_20 : decode b_M_left 20 = .ok (.iload_n 1, 1) := by decide +kernel
theorem d_M_left_21 : decode b_M_left 21 = .ok (.imul, 1) := by decide +kernel
theorem d_M_left_22 : decode b_M_left 22 = .ok (.iload_n 2, 1) := by decide +kernel
theorem d_M_left_23 : decode b_M_left 23 = .ok (.iadd, 1) := by decide +kernel
theorem d_M_left_24 : decode b_M_left 24 = .ok (.laload, 1) := by decide +kernel
theorem d_M_left_25 : decode b_M_left 25 = .ok (.goto 6, 3) := by decide +kernel
theorem d_M_left_28 : decode b_M_left 28 = .ok (.ldc2_w 106, 3) := by decide +kernel
theorem d_M_left_31 : decode b_M_left 31 = .ok (.lreturn, 1) := by decide +kernel
theorem d_M_grams_0 : decode b_M_grams 0 = .ok (.aload_n 0, 1) := by decide +kernel
theorem d_M_grams_1 : decode b_M_grams 1 = .ok (.iload_n 1, 1) := by decide +kernel
theorem d_M_grams_2 : decode b_M_grams 2 = .ok (.invokevirtual 95, 3) := by decide +kernel
theorem d_M_grams_5 : decode b_M_grams 5 = .ok (.ifCond .eq 12, 3) := by decide +kernel
theorem d_M_grams_8 : decode b_M_grams 8 = .ok (.aload_n 0, 1) := by decide +kernel
theorem d_M_grams_9 : decode b_M_grams 9 = .ok (.getfield 7, 3) := by decide +kernel
theorem d_M_grams_12 : decode b_M_grams 12 = .ok (.iload_n 1, 1) := by decide +kernel
theorem d_M_grams_13 : decode b_M_grams 13 = .ok (.laload, 1) := by decide +kernel
theorem d_M_grams_14 : decode b_M_grams 14 = .ok (.goto 6, 3) := by decide +kernel
theorem d_M_grams_17 : decode b_M_grams 17 = .ok (.ldc2_w 106, 3) := by decide +kernel
theorem d_M_grams_20 : decode b_M_grams 20 = .ok (.lreturn, 1) := by decide +kernel
theorem d_M_stage_0 : decode b_M_stage 0 = .ok (.aload_n 0, 1) := by decide +kernel
theorem d_M_stage_1 : decode b_M_stage 1 = .ok (.getfield 79, 3) := by decide +kernel
theorem d_M_stage_4 : decode b_M_stage 4 = .ok (.bipush 6, 2) := by decide +kernel
theorem d_M_stage_6 : decode b_M_stage 6 = .ok (.if_icmp .eq 34, 3) := by decide +kernel
theorem d_M_stage_9 : decode b_M_stage 9 = .ok (.iload_n 1, 1) := by decide +kernel
theorem d_M_stage_10 : decode b_M_stage 10 = .ok (.invokestatic 99, 3) := by decide +kernel
theorem d_M_stage_13 : decode b_M_stage 13 = .ok (.ifCond .eq 27, 3) := by decide +kernel
theorem d_M_stage_16 : decode b_M_stage 16 = .ok (.iload_n 2, 1) := by decide +kernel
theorem d_M_stage_17 : decode b_M_stage 17 = .ok (.i2l, 1) := by decide +kernel
theorem d_M_stage_18 : decode b_M_stage 18 = .ok (.lconst 0, 1) := by decide +kernel
theorem d_M_stage_19 : decode b_M_stage 19 = .ok (.ldc2_w 108, 3) := by decide +kernel
theorem d_M_stage_22 : decode b_M_stage 22 = .ok (.invokestatic 84, 3) := by decide +kernel
theorem d_M_stage_25 : decode b_M_stage 25 = .ok (.ifCond .eq 15, 3) := by decide +kernel
theorem d_M_stage_28 : decode b_M_stage 28 = .ok (.iload_n 3, 1) := by decide +kernel
theorem d_M_stage_29 : decode b_M_stage 29 = .ok (.i2l, 1) := by decide +kernel
theorem d_M_stage_30 : decode b_M_stage 30 = .ok (.lconst 0, 1) := by decide +kernel
theorem d_M_stage_31 : decode b_M_stage 31 = .ok (.ldc2_w 108, 3) := by decide +kernel
theorem d_M_stage_34 : decode b_M_stage 34 = .ok (.invokestatic 84, 3) := by decide +kernel
theorem d_M_stage_37 : decode b_M_stage 37 = .ok (.ifCond .ne 5, 3) := by decide +kernel
theorem d_M_stage_40 : decode b_M_stage 40 = .ok (.iconst (-1), 1) := by decide +kernel
theorem d_M_stage_41 : decode b_M_stage 41 = .ok (.ireturn, 1) := by decide +kernel
theorem d_M_stage_42 : decode b_M_stage 42 = .ok (.aload_n 0, 1) := by decide +kernel
theorem d_M_stage_43 : decode b_M_stage 43 = .ok (.getfield 36, 3) := by decide +kernel
theorem d_M_stage_46 : decode b_M_stage 46 = .ok (.aload_n 0, 1) := by decide +kernel
theorem d_M_stage_47 : decode b_M_stage 47 = .ok (.getfield 79, 3) := by decide +kernel
theorem d_M_stage_50 : decode b_M_stage 50 = .ok (.iload_n 1, 1) := by decide +kernel
theorem d_M_stage_51 : decode b_M_stage 51 = .ok (.iastore, 1) := by decide +kernel
theorem d_M_stage_52 : decode b_M_stage 52 = .ok (.aload_n 0, 1) := by decide +kernel
theorem d_M_stage_53 : decode b_M_stage 53 = .ok (.getfield 39, 3) := by decide +kernel
theorem d_M_stage_56 : decode b_M_stage 56 = .ok (.aload_n 0, 1) := by decide +kernel
theorem d_M_stage_57 : decode b_M_stage 57 = .ok (.getfield 79, 3) := by decide +kernel
theorem d_M_stage_60 : decode b_M_stage 60 = .ok (.iload_n 2, 1) := by decide +kernel
theorem d_M_stage_61 : decode b_M_stage 61 = .ok (.iastore, 1) := by decide +kernel
theorem d_M_stage_62 : decode b_M_stage 62 = .ok (.aload_n 0, 1) := by decide +kernel
theorem d_M_stage_63 : decode b_M_stage 63 = .ok (.getfield 42, 3) := by decide +kernel
theorem d_M_stage_66 : decode b_M_stage 66 = .ok (.aload_n 0, 1) := by decide +kernel
theorem d_M_stage_67 : decode b_M_stage 67 = .ok (.getfield 79, 3) := by decide +kernel
theorem d_M_stage_70 : decode b_M_stage 70 = .ok (.iload_n 3, 1) := by decide +kernel
theorem d_M_stage_71 : decode b_M_stage 71 = .ok (.iastore, 1) := by decide +kernel
theorem d_M_stage_72 : decode b_M_stage 72 = .ok (.aload_n 0, 1) := by decide +kernel
theorem d_M_stage_73 : decode b_M_stage 73 = .ok (.dup, 1) := by decide +kernel
theorem d_M_stage_74 : decode b_M_stage 74 = .ok (.getfield 79, 3) := by decide +kernel
theorem d_M_stage_77 : decode b_M_stage 77 = .ok (.iconst 1, 1) := by decide +kernel
theorem d_M_stage_78 : decode b_M_stage 78 = .ok (.iadd, 1) := by decide +kernel
theorem d_M_stage_79 : decode b_M_stage 79 = .ok (.putfield 79, 3) := by decide +kernel
theorem d_M_stage_82 : decode b_M_stage 82 = .ok (.aload_n 0, 1) := by decide +kernel
theorem d_M_stage_83 : decode b_M_stage 83 = .ok (.getfield 79, 3) := by decide +kernel
theorem d_M_stage_86 : decode b_M_stage 86 = .ok (.iconst 1, 1) := by decide +kernel
theorem d_M_stage_87 : decode b_M_stage 87 = .ok (.isub, 1) := by decide +kernel
theorem d_M_stage_88 : decode b_M_stage 88 = .ok (.ireturn, 1) := by decide +kernel
theorem d_M_run_0 : decode b_M_run 0 = .ok (.aload_n 0, 1) := by decide +kernel
theorem d_M_run_1 : decode b_M_run 1 = .ok (.iload_n 1, 1) := by decide +kernel
theorem d_M_run_2 : decode b_M_run 2 = .ok (.invokevirtual 95, 3) := by decide +kernel
theorem d_M_run_5 : decode b_M_run 5 = .ok (.ifCond .eq 21, 3) := by decide +kernel
theorem d_M_run_8 : decode b_M_run 8 = .ok (.aload_n 0, 1) := by decide +kernel
theorem d_M_run_9 : decode b_M_run 9 = .ok (.getfield 17, 3) := by decide +kernel
theorem d_M_run_12 : decode b_M_run 12 = .ok (.iload_n 1, 1) := by decide +kernel
theorem d_M_run_13 : decode b_M_run 13 = .ok (.baload, 1) := by decide +kernel
theorem d_M_run_14 : decode b_M_run 14 = .ok (.ifCond .ne 12, 3) := by decide +kernel
theorem d_M_run_17 : decode b_M_run 17 = .ok (.aload_n 0, 1) := by decide +kernel
theorem d_M_run_18 : decode b_M_run 18 = .ok (.getfield 24, 3) := by decide +kernel
theorem d_M_run_21 : decode b_M_run 21 = .ok (.iload_n 1, 1) := by decide +kernel
theorem d_M_run_22 : decode b_M_run 22 = .ok (.baload, 1) := by decide +kernel
theorem d_M_run_23 : decode b_M_run 23 = .ok (.ifCond .eq 5, 3) := by decide +kernel
theorem d_M_run_26 : decode b_M_run 26 = .ok (.iconst (-1), 1) := by decide +kernel
theorem d_M_run_27 : decode b_M_run 27 = .ok (.ireturn, 1) := by decide +kernel
theorem d_M_run_28 : decode b_M_run 28 = .ok (.iconst 0, 1) := by decide +kernel
theorem d_M_run_29 : decode b_M_run 29 = .ok (.istore_n 2, 1) := by decide +kernel
theorem d_M_run_30 : decode b_M_run 30 = .ok (.iload_n 2, 1) := by decide +kernel
theorem d_M_run_31 : decode b_M_run 31 = .ok (.aload_n 0, 1) := by decide +kernel
theorem d_M_run_32 : decode b_M_run 32 = .ok (.getfield 79, 3) := by decide +kernel
theorem d_M_run_35 : decode b_M_run 35 = .ok (.if_icmp .ge 168, 3) := by decide +kernel
theorem d_M_run_38 : decode b_M_run 38 = .ok (.lconst 0, 1) := by decide +kernel
theorem d_M_run_39 : decode b_M_run 39 = .ok (.lstore_n 3, 1) := by decide +kernel
theorem d_M_run_40 : decode b_M_run 40 = .ok (.iconst 0, 1) := by decide +kernel
theorem d_M_run_41 : decode b_M_run 41 = .ok (.istore 5, 2) := by decide +kernel
theorem d_M_run_43 : decode b_M_run 43 = .ok (.iload 5, 2) := by decide +kernel
theorem d_M_run_45 : decode b_M_run 45 = .ok (.iconst 4, 1) := by decide +kernel
theorem d_M_run_46 : decode b_M_run 46 = .ok (.if_icmp .ge 113, 3) := by decide +kernel
theorem d_M_run_49 : decode b_M_run 49 = .ok (.iload 5, 2) := by decide +kernel
theorem d_M_run_51 : decode b_M_run 51 = .ok (.aload_n 0, 1) := by decide +kernel
theorem d_M_run_52 : decode b_M_run 52 = .ok (.getfield 36, 3) := by decide +kernel
theorem d_M_run_55 : decode b_M_run 55 = .ok (.iload_n 2, 1) := by decide +kernel
theorem d_M_run_56 : decode b_M_run 56 = .ok (.iaload, 1) := by decide +kernel
theorem d_M_run_57 : decode b_M_run 57 = .ok (.if_icmp .ne 12, 3) := by decide +kernel
theorem d_M_run_60 : decode b_M_run 60 = .ok (.aload_n 0, 1) := by decide +kernel
theorem d_M_run_61 : decode b_M_run 61 = .ok (.getfield 39, 3) := by decide +kernel
theorem d_M_run_64 : decode b_M_run 64 = .ok (.iload_n 2, 1) := by decide +kernel
theorem d_M_run_65 : decode b_M_run 65 = .ok (.iaload, 1) := by decide +kernel
theorem d_M_run_66 : decode b_M_run 66 = .ok (.goto 9, 3) := by decide +kernel
theorem d_M_run_69 : decode b_M_run 69 = .ok (.aload_n 0, 1) := by decide +kernel
theorem d_M_run_70 : decode b_M_run 70 = .ok (.getfield 42, 3) := by decide +kernel
theorem d_M_run_73 : decode b_M_run 73 = .ok (.iload_n 2, 1) := by decide +kernel
theorem d_M_run_74 : decode b_M_run 74 = .ok (.iaload, 1) := by decide +kernel
theorem d_M_run_75 : decode b_M_run 75 = .ok (.istore 6, 2) := by decide +kernel
theorem d_M_run_77 : decode b_M_run 77 = .ok (.aload_n 0, 1) := by decide +kernel
theorem d_M_run_78 : decode b_M_run 78 = .ok (.getfield 30, 3) := by decide +kernel
theorem d_M_run_81 : decode b_M_run 81 = .ok (.iconst 4, 1) := by decide +kernel
theorem d_M_run_82 : decode b_M_run 82 = .ok (.iload_n 1, 1) := by decide +kernel
theorem d_M_run_83 : decode b_M_run 83 = .ok (.imul, 1) := by decide +kernel
theorem d_M_run_84 : decode b_M_run 84 = .ok (.iload 5, 2) := by decide +kernel
theorem d_M_run_86 : decode b_M_run 86 = .ok (.iadd, 1) := by decide +kernel
theorem d_M_run_87 : decode b_M_run 87 = .ok (.laload, 1) := by decide +kernel
theorem d_M_run_88 : decode b_M_run 88 = .ok (.iload 6, 2) := by decide +kernel
theorem d_M_run_90 : decode b_M_run 90 = .ok (.i2l, 1) := by decide +kernel
theorem d_M_run_91 : decode b_M_run 91 = .ok (.lmul, 1) := by decide +kernel
theorem d_M_run_92 : decode b_M_run 92 = .ok (.ldc2_w 108, 3) := by decide +kernel
theorem d_M_run_95 : decode b_M_run 95 = .ok (.ldiv, 1) := by decide +kernel
theorem d_M_run_96 : decode b_M_run 96 = .ok (.lstore 7, 2) := by decide +kernel
theorem d_M_run_98 : decode b_M_run 98 = .ok (.aload_n 0, 1) := by decide +kernel
theorem d_M_run_99 : decode b_M_run 99 = .ok (.getfield 30, 3) := by decide +kernel
theorem d_M_run_102 : decode b_M_run 102 = .ok (.iconst 4, 1) := by decide +kernel
theorem d_M_run_103 : decode b_M_run 103 = .ok (.iload_n 1, 1) := by decide +kernel
theorem d_M_run_104 : decode b_M_run 104 = .ok (.imul, 1) := by decide +kernel
theorem d_M_run_105 : decode b_M_run 105 = .ok (.iload 5, 2) := by decide +kernel
theorem d_M_run_107 : decode b_M_run 107 = .ok (.iadd, 1) := by decide +kernel
theorem d_M_run_108 : decode b_M_run 108 = .ok (.dup2, 1) := by decide +kernel
theorem d_M_run_109 : decode b_M_run 109 = .ok (.laload, 1) := by decide +kernel
theorem d_M_run_110 : decode b_M_run 110 = .ok (.lload 7, 2) := by decide +kernel
