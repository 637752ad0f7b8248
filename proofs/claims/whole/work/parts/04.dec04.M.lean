theorem d_M_run_112 : decode b_M_run 112 = .ok (.lsub, 1) := by decide +kernel
theorem d_M_run_113 : decode b_M_run 113 = .ok (.lastore, 1) := by decide +kernel
theorem d_M_run_114 : decode b_M_run 114 = .ok (.aload_n 0, 1) := by decide +kernel
theorem d_M_run_115 : decode b_M_run 115 = .ok (.getfield 33, 3) := by decide +kernel
theorem d_M_run_118 : decode b_M_run 118 = .ok (.bipush 24, 2) := by decide +kernel
theorem d_M_run_120 : decode b_M_run 120 = .ok (.iload_n 1, 1) := by decide +kernel
theorem d_M_run_121 : decode b_M_run 121 = .ok (.imul, 1) := by decide +kernel
theorem d_M_run_122 : decode b_M_run 122 = .ok (.iconst 4, 1) := by decide +kernel
theorem d_M_run_123 : decode b_M_run 123 = .ok (.iload_n 2, 1) := by decide +kernel
theorem d_M_run_124 : decode b_M_run 124 = .ok (.imul, 1) := by decide +kernel
theorem d_M_run_125 : decode b_M_run 125 = .ok (.iadd, 1) := by decide +kernel
theorem d_M_run_126 : decode b_M_run 126 = .ok (.iload 5, 2) := by decide +kernel
theorem d_M_run_128 : decode b_M_run 128 = .ok (.iadd, 1) := by decide +kernel
theorem d_M_run_129 : decode b_M_run 129 = .ok (.lload 7, 2) := by decide +kernel
theorem d_M_run_131 : decode b_M_run 131 = .ok (.lastore, 1) := by decide +kernel
theorem d_M_run_132 : decode b_M_run 132 = .ok (.aload_n 0, 1) := by decide +kernel
theorem d_M_run_133 : decode b_M_run 133 = .ok (.getfield 45, 3) := by decide +kernel
theorem d_M_run_136 : decode b_M_run 136 = .ok (.iconst 4, 1) := by decide +kernel
theorem d_M_run_137 : decode b_M_run 137 = .ok (.iload_n 2, 1) := by decide +kernel
theorem d_M_run_138 : decode b_M_run 138 = .ok (.imul, 1) := by decide +kernel
theorem d_M_run_139 : decode b_M_run 139 = .ok (.iload 5, 2) := by decide +kernel
theorem d_M_run_141 : decode b_M_run 141 = .ok (.iadd, 1) := by decide +kernel
theorem d_M_run_142 : decode b_M_run 142 = .ok (.dup2, 1) := by decide +kernel
theorem d_M_run_143 : decode b_M_run 143 = .ok (.laload, 1) := by decide +kernel
theorem d_M_run_144 : decode b_M_run 144 = .ok (.lload 7, 2) := by decide +kernel
theorem d_M_run_146 : decode b_M_run 146 = .ok (.ladd, 1) := by decide +kernel
theorem d_M_run_147 : decode b_M_run 147 = .ok (.lastore, 1) := by decide +kernel
theorem d_M_run_148 : decode b_M_run 148 = .ok (.lload_n 3, 1) := by decide +kernel
theorem d_M_run_149 : decode b_M_run 149 = .ok (.lload 7, 2) := by decide +kernel
theorem d_M_run_151 : decode b_M_run 151 = .ok (.ladd, 1) := by decide +kernel
theorem d_M_run_152 : decode b_M_run 152 = .ok (.lstore_n 3, 1) := by decide +kernel
theorem d_M_run_153 : decode b_M_run 153 = .ok (.iinc 5 1, 3) := by decide +kernel
theorem d_M_run_156 : decode b_M_run 156 = .ok (.goto (-113), 3) := by decide +kernel
theorem d_M_run_159 : decode b_M_run 159 = .ok (.lload_n 3, 1) := by decide +kernel
theorem d_M_run_160 : decode b_M_run 160 = .ok (.ldc2_w 102, 3) := by decide +kernel
theorem d_M_run_163 : decode b_M_run 163 = .ok (.ldiv, 1) := by decide +kernel
theorem d_M_run_164 : decode b_M_run 164 = .ok (.lstore 5, 2) := by decide +kernel
theorem d_M_run_166 : decode b_M_run 166 = .ok (.aload_n 0, 1) := by decide +kernel
theorem d_M_run_167 : decode b_M_run 167 = .ok (.getfield 7, 3) := by decide +kernel
theorem d_M_run_170 : decode b_M_run 170 = .ok (.iload_n 1, 1) := by decide +kernel
theorem d_M_run_171 : decode b_M_run 171 = .ok (.lload 5, 2) := by decide +kernel
theorem d_M_run_173 : decode b_M_run 173 = .ok (.aload_n 0, 1) := by decide +kernel
theorem d_M_run_174 : decode b_M_run 174 = .ok (.getfield 7, 3) := by decide +kernel
theorem d_M_run_177 : decode b_M_run 177 = .ok (.iload_n 1, 1) := by decide +kernel
theorem d_M_run_178 : decode b_M_run 178 = .ok (.laload, 1) := by decide +kernel
theorem d_M_run_179 : decode b_M_run 179 = .ok (.lcmp, 1) := by decide +kernel
theorem d_M_run_180 : decode b_M_run 180 = .ok (.ifCond .le 7, 3) := by decide +kernel
theorem d_M_run_183 : decode b_M_run 183 = .ok (.lconst 0, 1) := by decide +kernel
theorem d_M_run_184 : decode b_M_run 184 = .ok (.goto 12, 3) := by decide +kernel
theorem d_M_run_187 : decode b_M_run 187 = .ok (.aload_n 0, 1) := by decide +kernel
theorem d_M_run_188 : decode b_M_run 188 = .ok (.getfield 7, 3) := by decide +kernel
theorem d_M_run_191 : decode b_M_run 191 = .ok (.iload_n 1, 1) := by decide +kernel
theorem d_M_run_192 : decode b_M_run 192 = .ok (.laload, 1) := by decide +kernel
theorem d_M_run_193 : decode b_M_run 193 = .ok (.lload 5, 2) := by decide +kernel
theorem d_M_run_195 : decode b_M_run 195 = .ok (.lsub, 1) := by decide +kernel
theorem d_M_run_196 : decode b_M_run 196 = .ok (.lastore, 1) := by decide +kernel
theorem d_M_run_197 : decode b_M_run 197 = .ok (.iinc 2 1, 3) := by decide +kernel
theorem d_M_run_200 : decode b_M_run 200 = .ok (.goto (-170), 3) := by decide +kernel
theorem d_M_run_203 : decode b_M_run 203 = .ok (.aload_n 0, 1) := by decide +kernel
theorem d_M_run_204 : decode b_M_run 204 = .ok (.getfield 24, 3) := by decide +kernel
theorem d_M_run_207 : decode b_M_run 207 = .ok (.iload_n 1, 1) := by decide +kernel
theorem d_M_run_208 : decode b_M_run 208 = .ok (.iconst 1, 1) := by decide +kernel
theorem d_M_run_209 : decode b_M_run 209 = .ok (.bastore, 1) := by decide +kernel
theorem d_M_run_210 : decode b_M_run 210 = .ok (.aload_n 0, 1) := by decide +kernel
theorem d_M_run_211 : decode b_M_run 211 = .ok (.getfield 27, 3) := by decide +kernel
theorem d_M_run_214 : decode b_M_run 214 = .ok (.iload_n 1, 1) := by decide +kernel
theorem d_M_run_215 : decode b_M_run 215 = .ok (.aload_n 0, 1) := by decide +kernel
theorem d_M_run_216 : decode b_M_run 216 = .ok (.getfield 79, 3) := by decide +kernel
theorem d_M_run_219 : decode b_M_run 219 = .ok (.iastore, 1) := by decide +kernel
theorem d_M_run_220 : decode b_M_run 220 = .ok (.aload_n 0, 1) := by decide +kernel
theorem d_M_run_221 : decode b_M_run 221 = .ok (.getfield 79, 3) := by decide +kernel
theorem d_M_run_224 : decode b_M_run 224 = .ok (.ireturn, 1) := by decide +kernel
theorem d_M_taken_0 : decode b_M_taken 0 = .ok (.aload_n 0, 1) := by decide +kernel
theorem d_M_taken_1 : decode b_M_taken 1 = .ok (.iload_n 1, 1) := by decide +kernel
theorem d_M_taken_2 : decode b_M_taken 2 = .ok (.invokevirtual 95, 3) := by decide +kernel
theorem d_M_taken_5 : decode b_M_taken 5 = .ok (.ifCond .eq 42, 3) := by decide +kernel
theorem d_M_taken_8 : decode b_M_taken 8 = .ok (.iload_n 3, 1) := by decide +kernel
theorem d_M_taken_9 : decode b_M_taken 9 = .ok (.invokestatic 99, 3) := by decide +kernel
theorem d_M_taken_12 : decode b_M_taken 12 = .ok (.ifCond .eq 35, 3) := by decide +kernel
theorem d_M_taken_15 : decode b_M_taken 15 = .ok (.iload_n 2, 1) := by decide +kernel
theorem d_M_taken_16 : decode b_M_taken 16 = .ok (.ifCond .lt 31, 3) := by decide +kernel
theorem d_M_taken_19 : decode b_M_taken 19 = .ok (.iload_n 2, 1) := by decide +kernel
theorem d_M_taken_20 : decode b_M_taken 20 = .ok (.aload_n 0, 1) := by decide +kernel
theorem d_M_taken_21 : decode b_M_taken 21 = .ok (.getfield 27, 3) := by decide +kernel
theorem d_M_taken_24 : decode b_M_taken 24 = .ok (.iload_n 1, 1) := by decide +kernel
theorem d_M_taken_25 : decode b_M_taken 25 = .ok (.iaload, 1) := by decide +kernel
theorem d_M_taken_26 : decode b_M_taken 26 = .ok (.if_icmp .ge 21, 3) := by decide +kernel
theorem d_M_taken_29 : decode b_M_taken 29 = .ok (.aload_n 0, 1) := by decide +kernel
theorem d_M_taken_30 : decode b_M_taken 30 = .ok (.getfield 33, 3) := by decide +kernel
theorem d_M_taken_33 : decode b_M_taken 33 = .ok (.bipush 24, 2) := by decide +kernel
theorem d_M_taken_35 : decode b_M_taken 35 = .ok (.iload_n 1, 1) := by decide +kernel
theorem d_M_taken_36 : decode b_M_taken 36 = .ok (.imul, 1) := by decide +kernel
theorem d_M_taken_37 : decode b_M_taken 37 = .ok (.iconst 4, 1) := by decide +kernel
theorem d_M_taken_38 : decode b_M_taken 38 = .ok (.iload_n 2, 1) := by decide +kernel
theorem d_M_taken_39 : decode b_M_taken 39 = .ok (.imul, 1) := by decide +kernel
theorem d_M_taken_40 : decode b_M_taken 40 = .ok (.iadd, 1) := by decide +kernel
theorem d_M_taken_41 : decode b_M_taken 41 = .ok (.iload_n 3, 1) := by decide +kernel
theorem d_M_taken_42 : decode b_M_taken 42 = .ok (.iadd, 1) := by decide +kernel
theorem d_M_taken_43 : decode b_M_taken 43 = .ok (.laload, 1) := by decide +kernel
theorem d_M_taken_44 : decode b_M_taken 44 = .ok (.goto 6, 3) := by decide +kernel
theorem d_M_taken_47 : decode b_M_taken 47 = .ok (.ldc2_w 106, 3) := by decide +kernel
theorem d_M_taken_50 : decode b_M_taken 50 = .ok (.lreturn, 1) := by decide +kernel
theorem d_M_stock_0 : decode b_M_stock 0 = .ok (.aload_n 0, 1) := by decide +kernel
theorem d_M_stock_1 : decode b_M_stock 1 = .ok (.iload_n 1, 1) := by decide +kernel
theorem d_M_stock_2 : decode b_M_stock 2 = .ok (.invokevirtual 110, 3) := by decide +kernel
theorem d_M_stock_5 : decode b_M_stock 5 = .ok (.ifCond .eq 23, 3) := by decide +kernel
theorem d_M_stock_8 : decode b_M_stock 8 = .ok (.iload_n 2, 1) := by decide +kernel
theorem d_M_stock_9 : decode b_M_stock 9 = .ok (.invokestatic 99, 3) := by decide +kernel
theorem d_M_stock_12 : decode b_M_stock 12 = .ok (.ifCond .eq 16, 3) := by decide +kernel
theorem d_M_stock_15 : decode b_M_stock 15 = .ok (.aload_n 0, 1) := by decide +kernel
theorem d_M_stock_16 : decode b_M_stock 16 = .ok (.getfield 45, 3) := by decide +kernel
theorem d_M_stock_19 : decode b_M_stock 19 = .ok (.iconst 4, 1) := by decide +kernel
theorem d_M_stock_20 : decode b_M_stock 20 = .ok (.iload_n 1, 1) := by decide +kernel
theorem d_M_stock_21 : decode b_M_stock 21 = .ok (.imul, 1) := by decide +kernel
theorem d_M_stock_22 : decode b_M_stock 22 = .ok (.iload_n 2, 1) := by decide +kernel
theorem d_M_stock_23 : decode b_M_stock 23 = .ok (.iadd, 1) := by decide +kernel
theorem d_M_stock_24 : decode b_M_stock 24 = .ok (.laload, 1) := by decide +kernel
theorem d_M_stock_25 : decode b_M_stock 25 = .ok (.goto 6, 3) := by decide +kernel
theorem d_M_stock_28 : decode b_M_stock 28 = .ok (.ldc2_w 106, 3) := by decide +kernel
theorem d_M_stock_31 : decode b_M_stock 31 = .ok (.lreturn, 1) := by decide +kernel
theorem d_M_price_0 : decode b_M_price 0 = .ok (.iload_n 1, 1) := by decide +kernel
theorem d_M_price_1 : decode b_M_price 1 = .ok (.invokestatic 99, 3) := by decide +kernel
theorem d_M_price_4 : decode b_M_price 4 = .ok (.ifCond .eq 37, 3) := by decide +kernel
theorem d_M_price_7 : decode b_M_price 7 = .ok (.aload_n 0, 1) := by decide +kernel
theorem d_M_price_8 : decode b_M_price 8 = .ok (.getfield 48, 3) := by decide +kernel
theorem d_M_price_11 : decode b_M_price 11 = .ok (.iload_n 1, 1) := by decide +kernel
theorem d_M_price_12 : decode b_M_price 12 = .ok (.iaload, 1) := by decide +kernel
theorem d_M_price_13 : decode b_M_price 13 = .ok (.bipush 6, 2) := by decide +kernel
theorem d_M_price_15 : decode b_M_price 15 = .ok (.if_icmp .eq 26, 3) := by decide +kernel
theorem d_M_price_18 : decode b_M_price 18 = .ok (.iload_n 2, 1) := by decide +kernel
theorem d_M_price_19 : decode b_M_price 19 = .ok (.i2l, 1) := by decide +kernel
theorem d_M_price_20 : decode b_M_price 20 = .ok (.lconst 0, 1) := by decide +kernel
theorem d_M_price_21 : decode b_M_price 21 = .ok (.ldc2_w 104, 3) := by decide +kernel
theorem d_M_price_24 : decode b_M_price 24 = .ok (.invokestatic 84, 3) := by decide +kernel
theorem d_M_price_27 : decode b_M_price 27 = .ok (.ifCond .eq 14, 3) := by decide +kernel
theorem d_M_price_30 : decode b_M_price 30 = .ok (.lload_n 3, 1) := by decide +kernel
theorem d_M_price_31 : decode b_M_price 31 = .ok (.lconst 0, 1) := by decide +kernel
theorem d_M_price_32 : decode b_M_price 32 = .ok (.ldc2_w 102, 3) := by decide +kernel
theorem d_M_price_35 : decode b_M_price 35 = .ok (.invokestatic 84, 3) := by decide +kernel
theorem d_M_price_38 : decode b_M_price 38 = .ok (.ifCond .ne 5, 3) := by decide +kernel
theorem d_M_price_41 : decode b_M_price 41 = .ok (.iconst 0, 1) := by decide +kernel
theorem d_M_price_42 : decode b_M_price 42 = .ok (.ireturn, 1) := by decide +kernel
theorem d_M_price_43 : decode b_M_price 43 = .ok (.bipush 6, 2) := by decide +kernel
theorem d_M_price_45 : decode b_M_price 45 = .ok (.iload_n 1, 1) := by decide +kernel
theorem d_M_price_46 : decode b_M_price 46 = .ok (.imul, 1) := by decide +kernel
theorem d_M_price_47 : decode b_M_price 47 = .ok (.aload_n 0, 1) := by decide +kernel
theorem d_M_price_48 : decode b_M_price 48 = .ok (.getfield 48, 3) := by decide +kernel
theorem d_M_price_51 : decode b_M_price 51 = .ok (.iload_n 1, 1) := by decide +kernel
theorem d_M_price_52 : decode b_M_price 52 = .ok (.iaload, 1) := by decide +kernel
theorem d_M_price_53 : decode b_M_price 53 = .ok (.iadd, 1) := by decide +kernel
theorem d_M_price_54 : decode b_M_price 54 = .ok (.istore 5, 2) := by decide +kernel
theorem d_M_price_56 : decode b_M_price 56 = .ok (.aload_n 0, 1) := by decide +kernel
theorem d_M_price_57 : decode b_M_price 57 = .ok (.getfield 48, 3) := by decide +kernel
theorem d_M_price_60 : decode b_M_price 60 = .ok (.iload_n 1, 1) := by decide +kernel
theorem d_M_price_61 : decode b_M_price 61 = .ok (.iaload, 1) := by decide +kernel
theorem d_M_price_62 : decode b_M_price 62 = .ok (.ifCond .le 18, 3) := by decide +kernel
theorem d_M_price_65 : decode b_M_price 65 = .ok (.iload_n 2, 1) := by decide +kernel
theorem d_M_price_66 : decode b_M_price 66 = .ok (.aload_n 0, 1) := by decide +kernel
theorem d_M_price_67 : decode b_M_price 67 = .ok (.getfield 51, 3) := by decide +kernel
theorem d_M_price_70 : decode b_M_price 70 = .ok (.iload 5, 2) := by decide +kernel
theorem d_M_price_72 : decode b_M_price 72 = .ok (.iconst 1, 1) := by decide +kernel
theorem d_M_price_73 : decode b_M_price 73 = .ok (.isub, 1) := by decide +kernel
theorem d_M_price_74 : decode b_M_price 74 = .ok (.iaload, 1) := by decide +kernel
theorem d_M_price_75 : decode b_M_price 75 = .ok (.if_icmp .gt 5, 3) := by decide +kernel
theorem d_M_price_78 : decode b_M_price 78 = .ok (.iconst 0, 1) := by decide +kernel
theorem d_M_price_79 : decode b_M_price 79 = .ok (.ireturn, 1) := by decide +kernel
theorem d_M_price_80 : decode b_M_price 80 = .ok (.aload_n 0, 1) := by decide +kernel
theorem d_M_price_81 : decode b_M_price 81 = .ok (.getfield 51, 3) := by decide +kernel
theorem d_M_price_84 : decode b_M_price 84 = .ok (.iload 5, 2) := by decide +kernel
theorem d_M_price_86 : decode b_M_price 86 = .ok (.iload_n 2, 1) := by decide +kernel
theorem d_M_price_87 : decode b_M_price 87 = .ok (.iastore, 1) := by decide +kernel
theorem d_M_price_88 : decode b_M_price 88 = .ok (.aload_n 0, 1) := by decide +kernel
theorem d_M_price_89 : decode b_M_price 89 = .ok (.getfield 54, 3) := by decide +kernel
theorem d_M_price_92 : decode b_M_price 92 = .ok (.iload 5, 2) := by decide +kernel
theorem d_M_price_94 : decode b_M_price 94 = .ok (.lload_n 3, 1) := by decide +kernel
theorem d_M_price_95 : decode b_M_price 95 = .ok (.lastore, 1) := by decide +kernel
theorem d_M_price_96 : decode b_M_price 96 = .ok (.aload_n 0, 1) := by decide +kernel
theorem d_M_price_97 : decode b_M_price 97 = .ok (.getfield 48, 3) := by decide +kernel
theorem d_M_price_100 : decode b_M_price 100 = .ok (.iload_n 1, 1) := by decide +kernel
theorem d_M_price_101 : decode b_M_price 101 = .ok (.dup2, 1) := by decide +kernel
theorem d_M_price_102 : decode b_M_price 102 = .ok (.iaload, 1) := by decide +kernel
theorem d_M_price_103 : decode b_M_price 103 = .ok (.iconst 1, 1) := by decide +kernel
theorem d_M_price_104 : decode b_M_price 104 = .ok (.iadd, 1) := by decide +kernel
theorem d_M_price_105 : decode b_M_price 105 = .ok (.iastore, 1) := by decide +kernel
theorem d_M_price_106 : decode b_M_price 106 = .ok (.iconst 1, 1) := by decide +kernel
theorem d_M_price_107 : decode b_M_price 107 = .ok (.ireturn, 1) := by decide +kernel
theorem d_M_priceOn_0 : decode b_M_priceOn 0 = .ok (.lconst 0, 1) := by decide +kernel
theorem d_M_priceOn_1 : decode b_M_priceOn 1 = .ok (.lstore_n 3, 1) := by decide +kernel
theorem d_M_priceOn_2 : decode b_M_priceOn 2 = .ok (.iconst 0, 1) := by decide +kernel
theorem d_M_priceOn_3 : decode b_M_priceOn 3 = .ok (.istore 5, 2) := by decide +kernel
theorem d_M_priceOn_5 : decode b_M_priceOn 5 = .ok (.iload 5, 2) := by decide +kernel
theorem d_M_priceOn_7 : decode b_M_priceOn 7 = .ok (.aload_n 0, 1) := by decide +kernel
theorem d_M_priceOn_8 : decode b_M_priceOn 8 = .ok (.getfield 48, 3) := by decide +kernel
theorem d_M_priceOn_11 : decode b_M_priceOn 11 = .ok (.iload_n 1, 1) := by decide +kernel
theorem d_M_priceOn_12 : decode b_M_priceOn 12 = .ok (.iaload, 1) := by decide +kernel
theorem d_M_priceOn_13 : decode b_M_priceOn 13 = .ok (.if_icmp .ge 42, 3) := by decide +kernel
theorem d_M_priceOn_16 : decode b_M_priceOn 16 = .ok (.aload_n 0, 1) := by decide +kernel
theorem d_M_priceOn_17 : decode b_M_priceOn 17 = .ok (.getfield 51, 3) := by decide +kernel
theorem d_M_priceOn_20 : decode b_M_priceOn 20 = .ok (.bipush 6, 2) := by decide +kernel
theorem d_M_priceOn_22 : decode b_M_priceOn 22 = .ok (.iload_n 1, 1) := by decide +kernel
theorem d_M_priceOn_23 : decode b_M_priceOn 23 = .ok (.imul, 1) := by decide +kernel
theorem d_M_priceOn_24 : decode b_M_priceOn 24 = .ok (.iload 5, 2) := by decide +kernel
theorem d_M_priceOn_26 : decode b_M_priceOn 26 = .ok (.iadd, 1) := by decide +kernel
theorem d_M_priceOn_27 : decode b_M_priceOn 27 = .ok (.iaload, 1) := by decide +kernel
theorem d_M_priceOn_28 : decode b_M_priceOn 28 = .ok (.iload_n 2, 1) := by decide +kernel
theorem d_M_priceOn_29 : decode b_M_priceOn 29 = .ok (.if_icmp .gt 18, 3) := by decide +kernel
theorem d_M_priceOn_32 : decode b_M_priceOn 32 = .ok (.aload_n 0, 1) := by decide +kernel
theorem d_M_priceOn_33 : decode b_M_priceOn 33 = .ok (.getfield 54, 3) := by decide +kernel
theorem d_M_priceOn_36 : decode b_M_priceOn 36 = .ok (.bipush 6, 2) := by decide +kernel
theorem d_M_priceOn_38 : decode b_M_priceOn 38 = .ok (.iload_n 1, 1) := by decide +kernel
theorem d_M_priceOn_39 : decode b_M_priceOn 39 = .ok (.imul, 1) := by decide +kernel
theorem d_M_priceOn_40 : decode b_M_priceOn 40 = .ok (.iload 5, 2) := by decide +kernel
theorem d_M_priceOn_42 : decode b_M_priceOn 42 = .ok (.iadd, 1) := by decide +kernel
theorem d_M_priceOn_43 : decode b_M_priceOn 43 = .ok (.laload, 1) := by decide +kernel
theorem d_M_priceOn_44 : decode b_M_priceOn 44 = .ok (.goto 4, 3) := by decide +kernel
theorem d_M_priceOn_47 : decode b_M_priceOn 47 = .ok (.lload_n 3, 1) := by decide +kernel
theorem d_M_priceOn_48 : decode b_M_priceOn 48 = .ok (.lstore_n 3, 1) := by decide +kernel
theorem d_M_priceOn_49 : decode b_M_priceOn 49 = .ok (.iinc 5 1, 3) := by decide +kernel
theorem d_M_priceOn_52 : decode b_M_priceOn 52 = .ok (.goto (-47), 3) := by decide +kernel
theorem d_M_priceOn_55 : decode b_M_priceOn 55 = .ok (.lload_n 3, 1) := by decide +kernel
theorem d_M_priceOn_56 : decode b_M_priceOn 56 = .ok (.lreturn, 1) := by decide +kernel
theorem d_M_worthOf_0 : decode b_M_worthOf 0 = .ok (.lconst 0, 1) := by decide +kernel
theorem d_M_worthOf_1 : decode b_M_worthOf 1 = .ok (.lstore 4, 2) := by decide +kernel
theorem d_M_worthOf_3 : decode b_M_worthOf 3 = .ok (.lconst 0, 1) := by decide +kernel
theorem d_M_worthOf_4 : decode b_M_worthOf 4 = .ok (.lstore 6, 2) := by decide +kernel
theorem d_M_worthOf_6 : decode b_M_worthOf 6 = .ok (.iconst 0, 1) := by decide +kernel
theorem d_M_worthOf_7 : decode b_M_worthOf 7 = .ok (.istore 8, 2) := by decide +kernel
theorem d_M_worthOf_9 : decode b_M_worthOf 9 = .ok (.iload 8, 2) := by decide +kernel
theorem d_M_worthOf_11 : decode b_M_worthOf 11 = .ok (.iconst 4, 1) := by decide +kernel
theorem d_M_worthOf_12 : decode b_M_worthOf 12 = .ok (.if_icmp .ge 55, 3) := by decide +kernel
theorem d_M_worthOf_15 : decode b_M_worthOf 15 = .ok (.lload 4, 2) := by decide +kernel
theorem d_M_worthOf_17 : decode b_M_worthOf 17 = .ok (.aload_n 1, 1) := by decide +kernel
theorem d_M_worthOf_18 : decode b_M_worthOf 18 = .ok (.iload_n 2, 1) := by decide +kernel
theorem d_M_worthOf_19 : decode b_M_worthOf 19 = .ok (.iload 8, 2) := by decide +kernel
theorem d_M_worthOf_21 : decode b_M_worthOf 21 = .ok (.iadd, 1) := by decide +kernel
theorem d_M_worthOf_22 : decode b_M_worthOf 22 = .ok (.laload, 1) := by decide +kernel
theorem d_M_worthOf_23 : decode b_M_worthOf 23 = .ok (.ldc2_w 102, 3) := by decide +kernel
theorem d_M_worthOf_26 : decode b_M_worthOf 26 = .ok (.ldiv, 1) := by decide +kernel
theorem d_M_worthOf_27 : decode b_M_worthOf 27 = .ok (.aload_n 0, 1) := by decide +kernel
theorem d_M_worthOf_28 : decode b_M_worthOf 28 = .ok (.iload 8, 2) := by decide +kernel
theorem d_M_worthOf_30 : decode b_M_worthOf 30 = .ok (.iload_n 3, 1) := by decide +kernel
theorem d_M_worthOf_31 : decode b_M_worthOf 31 = .ok (.invokevirtual 113, 3) := by decide +kernel
theorem d_M_worthOf_34 : decode b_M_worthOf 34 = .ok (.lmul, 1) := by decide +kernel
theorem d_M_worthOf_35 : decode b_M_worthOf 35 = .ok (.ladd, 1) := by decide +kernel
theorem d_M_worthOf_36 : decode b_M_worthOf 36 = .ok (.lstore 4, 2) := by decide +kernel
theorem d_M_worthOf_38 : decode b_M_worthOf 38 = .ok (.lload 6, 2) := by decide +kernel
theorem d_M_worthOf_40 : decode b_M_worthOf 40 = .ok (.aload_n 1, 1) := by decide +kernel
theorem d_M_worthOf_41 : decode b_M_worthOf 41 = .ok (.iload_n 2, 1) := by decide +kernel
theorem d_M_worthOf_42 : decode b_M_worthOf 42 = .ok (.iload 8, 2) := by decide +kernel
theorem d_M_worthOf_44 : decode b_M_worthOf 44 = .ok (.iadd, 1) := by decide +kernel
theorem d_M_worthOf_45 : decode b_M_worthOf 45 = .ok (.laload, 1) := by decide +kernel
theorem d_M_worthOf_46 : decode b_M_worthOf 46 = .ok (.ldc2_w 102, 3) := by decide +kernel
theorem d_M_worthOf_49 : decode b_M_worthOf 49 = .ok (.lrem, 1) := by decide +kernel
theorem d_M_worthOf_50 : decode b_M_worthOf 50 = .ok (.aload_n 0, 1) := by decide +kernel
theorem d_M_worthOf_51 : decode b_M_worthOf 51 = .ok (.iload 8, 2) := by decide +kernel
theorem d_M_worthOf_53 : decode b_M_worthOf 53 = .ok (.iload_n 3, 1) := by decide +kernel
theorem d_M_worthOf_54 : decode b_M_worthOf 54 = .ok (.invokevirtual 113, 3) := by decide +kernel
theorem d_M_worthOf_57 : decode b_M_worthOf 57 = .ok (.lmul, 1) := by decide +kernel
theorem d_M_worthOf_58 : decode b_M_worthOf 58 = .ok (.ladd, 1) := by decide +kernel
theorem d_M_worthOf_59 : decode b_M_worthOf 59 = .ok (.lstore 6, 2) := by decide +kernel
theorem d_M_worthOf_61 : decode b_M_worthOf 61 = .ok (.iinc 8 1, 3) := by decide +kernel
theorem d_M_worthOf_64 : decode b_M_worthOf 64 = .ok (.goto (-55), 3) := by decide +kernel
theorem d_M_worthOf_67 : decode b_M_worthOf 67 = .ok (.lload 4, 2) := by decide +kernel
theorem d_M_worthOf_69 : decode b_M_worthOf 69 = .ok (.lload 6, 2) := by decide +kernel
theorem d_M_worthOf_71 : decode b_M_worthOf 71 = .ok (.ldc2_w 102, 3) := by decide +kernel
theorem d_M_worthOf_74 : decode b_M_worthOf 74 = .ok (.ldiv, 1) := by decide +kernel
theorem d_M_worthOf_75 : decode b_M_worthOf 75 = .ok (.ladd, 1) := by decide +kernel
theorem d_M_worthOf_76 : decode b_M_worthOf 76 = .ok (.lreturn, 1) := by decide +kernel
theorem d_M_worth_0 : decode b_M_worth 0 = .ok (.aload_n 0, 1) := by decide +kernel
theorem d_M_worth_1 : decode b_M_worth 1 = .ok (.iload_n 1, 1) := by decide +kernel
theorem d_M_worth_2 : decode b_M_worth 2 = .ok (.invokevirtual 95, 3) := by decide +kernel
theorem d_M_worth_5 : decode b_M_worth 5 = .ok (.ifCond .eq 22, 3) := by decide +kernel
theorem d_M_worth_8 : decode b_M_worth 8 = .ok (.iload_n 2, 1) := by decide +kernel
theorem d_M_worth_9 : decode b_M_worth 9 = .ok (.ifCond .lt 18, 3) := by decide +kernel
theorem d_M_worth_12 : decode b_M_worth 12 = .ok (.aload_n 0, 1) := by decide +kernel
theorem d_M_worth_13 : decode b_M_worth 13 = .ok (.aload_n 0, 1) := by decide +kernel
theorem d_M_worth_14 : decode b_M_worth 14 = .ok (.getfield 30, 3) := by decide +kernel
theorem d_M_worth_17 : decode b_M_worth 17 = .ok (.iconst 4, 1) := by decide +kernel
theorem d_M_worth_18 : decode b_M_worth 18 = .ok (.iload_n 1, 1) := by decide +kernel
theorem d_M_worth_19 : decode b_M_worth 19 = .ok (.imul, 1) := by decide +kernel
theorem d_M_worth_20 : decode b_M_worth 20 = .ok (.iload_n 2, 1) := by decide +kernel
theorem d_M_worth_21 : decode b_M_worth 21 = .ok (.invokevirtual 117, 3) := by decide +kernel
theorem d_M_worth_24 : decode b_M_worth 24 = .ok (.goto 6, 3) := by decide +kernel
theorem d_M_worth_27 : decode b_M_worth 27 = .ok (.ldc2_w 106, 3) := by decide +kernel
theorem d_M_worth_30 : decode b_M_worth 30 = .ok (.lreturn, 1) := by decide +kernel
theorem d_M_sell_0 : decode b_M_sell 0 = .ok (.aload_n 0, 1) := by decide +kernel
theorem d_M_sell_1 : decode b_M_sell 1 = .ok (.iload_n 1, 1) := by decide +kernel
theorem d_M_sell_2 : decode b_M_sell 2 = .ok (.invokevirtual 110, 3) := by decide +kernel
theorem d_M_sell_5 : decode b_M_sell 5 = .ok (.ifCond .ne 7, 3) := by decide +kernel
theorem d_M_sell_8 : decode b_M_sell 8 = .ok (.ldc2_w 106, 3) := by decide +kernel
theorem d_M_sell_11 : decode b_M_sell 11 = .ok (.lreturn, 1) := by decide +kernel
theorem d_M_sell_12 : decode b_M_sell 12 = .ok (.aload_n 0, 1) := by decide +kernel
theorem d_M_sell_13 : decode b_M_sell 13 = .ok (.aload_n 0, 1) := by decide +kernel
theorem d_M_sell_14 : decode b_M_sell 14 = .ok (.getfield 45, 3) := by decide +kernel
theorem d_M_sell_17 : decode b_M_sell 17 = .ok (.iconst 4, 1) := by decide +kernel
theorem d_M_sell_18 : decode b_M_sell 18 = .ok (.iload_n 1, 1) := by decide +kernel
theorem d_M_sell_19 : decode b_M_sell 19 = .ok (.imul, 1) := by decide +kernel
theorem d_M_sell_20 : decode b_M_sell 20 = .ok (.aload_n 0, 1) := by decide +kernel
theorem d_M_sell_21 : decode b_M_sell 21 = .ok (.getfield 88, 3) := by decide +kernel
theorem d_M_sell_24 : decode b_M_sell 24 = .ok (.invokevirtual 117, 3) := by decide +kernel
theorem d_M_sell_27 : decode b_M_sell 27 = .ok (.lstore_n 2, 1) := by decide +kernel
theorem d_M_sell_28 : decode b_M_sell 28 = .ok (.aload_n 0, 1) := by decide +kernel
theorem d_M_sell_29 : decode b_M_sell 29 = .ok (.dup, 1) := by decide +kernel
theorem d_M_sell_30 : decode b_M_sell 30 = .ok (.getfield 121, 3) := by decide +kernel
theorem d_M_sell_33 : decode b_M_sell 33 = .ok (.lload_n 2, 1) := by decide +kernel
theorem d_M_sell_34 : decode b_M_sell 34 = .ok (.ladd, 1) := by decide +kernel
theorem d_M_sell_35 : decode b_M_sell 35 = .ok (.putfield 121, 3) := by decide +kernel
theorem d_M_sell_38 : decode b_M_sell 38 = .ok (.iconst 0, 1) := by decide +kernel
theorem d_M_sell_39 : decode b_M_sell 39 = .ok (.istore 4, 2) := by decide +kernel
theorem d_M_sell_41 : decode b_M_sell 41 = .ok (.iload 4, 2) := by decide +kernel
theorem d_M_sell_43 : decode b_M_sell 43 = .ok (.iconst 4, 1) := by decide +kernel
theorem d_M_sell_44 : decode b_M_sell 44 = .ok (.if_icmp .ge 21, 3) := by decide +kernel
theorem d_M_sell_47 : decode b_M_sell 47 = .ok (.aload_n 0, 1) := by decide +kernel
theorem d_M_sell_48 : decode b_M_sell 48 = .ok (.getfield 45, 3) := by decide +kernel
theorem d_M_sell_51 : decode b_M_sell 51 = .ok (.iconst 4, 1) := by decide +kernel
theorem d_M_sell_52 : decode b_M_sell 52 = .ok (.iload_n 1, 1) := by decide +kernel
theorem d_M_sell_53 : decode b_M_sell 53 = .ok (.imul, 1) := by decide +kernel
theorem d_M_sell_54 : decode b_M_sell 54 = .ok (.iload 4, 2) := by decide +kernel
theorem d_M_sell_56 : decode b_M_sell 56 = .ok (.iadd, 1) := by decide +kernel
theorem d_M_sell_57 : decode b_M_sell 57 = .ok (.lconst 0, 1) := by decide +kernel
theorem d_M_sell_58 : decode b_M_sell 58 = .ok (.lastore, 1) := by decide +kernel
theorem d_M_sell_59 : decode b_M_sell 59 = .ok (.iinc 4 1, 3) := by decide +kernel
theorem d_M_sell_62 : decode b_M_sell 62 = .ok (.goto (-21), 3) := by decide +kernel
theorem d_M_sell_65 : decode b_M_sell 65 = .ok (.lload_n 2, 1) := by decide +kernel
theorem d_M_sell_66 : decode b_M_sell 66 = .ok (.lreturn, 1) := by decide +kernel
theorem d_M_money_0 : decode b_M_money 0 = .ok (.aload_n 0, 1) := by decide +kernel
theorem d_M_money_1 : decode b_M_money 1 = .ok (.getfield 121, 3) := by decide +kernel
theorem d_M_money_4 : decode b_M_money 4 = .ok (.lreturn, 1) := by decide +kernel
theorem d_M_assay_0 : decode b_M_assay 0 = .ok (.aload_n 0, 1) := by decide +kernel
theorem d_M_assay_1 : decode b_M_assay 1 = .ok (.iload_n 1, 1) := by decide +kernel
theorem d_M_assay_2 : decode b_M_assay 2 = .ok (.invokevirtual 95, 3) := by decide +kernel
theorem d_M_assay_5 : decode b_M_assay 5 = .ok (.ifCond .eq 44, 3) := by decide +kernel
theorem d_M_assay_8 : decode b_M_assay 8 = .ok (.iload_n 2, 1) := by decide +kernel
theorem d_M_assay_9 : decode b_M_assay 9 = .ok (.i2l, 1) := by decide +kernel
theorem d_M_assay_10 : decode b_M_assay 10 = .ok (.lconst 0, 1) := by decide +kernel
theorem d_M_assay_11 : decode b_M_assay 11 = .ok (.ldc2_w 125, 3) := by decide +kernel
theorem d_M_assay_14 : decode b_M_assay 14 = .ok (.invokestatic 84, 3) := by decide +kernel
theorem d_M_assay_17 : decode b_M_assay 17 = .ok (.ifCond .eq 32, 3) := by decide +kernel
theorem d_M_assay_20 : decode b_M_assay 20 = .ok (.iload_n 3, 1) := by decide +kernel
theorem d_M_assay_21 : decode b_M_assay 21 = .ok (.invokestatic 99, 3) := by decide +kernel
theorem d_M_assay_24 : decode b_M_assay 24 = .ok (.ifCond .eq 25, 3) := by decide +kernel
theorem d_M_assay_27 : decode b_M_assay 27 = .ok (.iload 4, 2) := by decide +kernel
theorem d_M_assay_29 : decode b_M_assay 29 = .ok (.i2l, 1) := by decide +kernel
theorem d_M_assay_30 : decode b_M_assay 30 = .ok (.lconst 0, 1) := by decide +kernel
theorem d_M_assay_31 : decode b_M_assay 31 = .ok (.ldc2_w 102, 3) := by decide +kernel
theorem d_M_assay_34 : decode b_M_assay 34 = .ok (.invokestatic 84, 3) := by decide +kernel
theorem d_M_assay_37 : decode b_M_assay 37 = .ok (.ifCond .eq 12, 3) := by decide +kernel
theorem d_M_assay_40 : decode b_M_assay 40 = .ok (.aload_n 0, 1) := by decide +kernel
theorem d_M_assay_41 : decode b_M_assay 41 = .ok (.getfield 17, 3) := by decide +kernel
theorem d_M_assay_44 : decode b_M_assay 44 = .ok (.iload_n 1, 1) := by decide +kernel
theorem d_M_assay_45 : decode b_M_assay 45 = .ok (.baload, 1) := by decide +kernel
theorem d_M_assay_46 : decode b_M_assay 46 = .ok (.ifCond .eq 5, 3) := by decide +kernel
theorem d_M_assay_49 : decode b_M_assay 49 = .ok (.iconst 0, 1) := by decide +kernel
theorem d_M_assay_50 : decode b_M_assay 50 = .ok (.ireturn, 1) := by decide +kernel
theorem d_M_assay_51 : decode b_M_assay 51 = .ok (.aload_n 0, 1) := by decide +kernel
theorem d_M_assay_52 : decode b_M_assay 52 = .ok (.getfield 57, 3) := by decide +kernel
theorem d_M_assay_55 : decode b_M_assay 55 = .ok (.bipush 12, 2) := by decide +kernel
theorem d_M_assay_57 : decode b_M_assay 57 = .ok (.iload_n 1, 1) := by decide +kernel
theorem d_M_assay_58 : decode b_M_assay 58 = .ok (.imul, 1) := by decide +kernel
theorem d_M_assay_59 : decode b_M_assay 59 = .ok (.iconst 3, 1) := by decide +kernel
theorem d_M_assay_60 : decode b_M_assay 60 = .ok (.iload_n 3, 1) := by decide +kernel
theorem d_M_assay_61 : decode b_M_assay 61 = .ok (.imul, 1) := by decide +kernel
theorem d_M_assay_62 : decode b_M_assay 62 = .ok (.iadd, 1) := by decide +kernel
theorem d_M_assay_63 : decode b_M_assay 63 = .ok (.iload_n 2, 1) := by decide +kernel
theorem d_M_assay_64 : decode b_M_assay 64 = .ok (.iadd, 1) := by decide +kernel
theorem d_M_assay_65 : decode b_M_assay 65 = .ok (.iload 4, 2) := by decide +kernel
theorem d_M_assay_67 : decode b_M_assay 67 = .ok (.iastore, 1) := by decide +kernel
theorem d_M_assay_68 : decode b_M_assay 68 = .ok (.iconst 1, 1) := by decide +kernel
theorem d_M_assay_69 : decode b_M_assay 69 = .ok (.ireturn, 1) := by decide +kernel
theorem d_M_least_0 : decode b_M_least 0 = .ok (.iload_n 0, 1) := by decide +kernel
theorem d_M_least_1 : decode b_M_least 1 = .ok (.iload_n 1, 1) := by decide +kernel
theorem d_M_least_2 : decode b_M_least 2 = .ok (.if_icmp .ge 7, 3) := by decide +kernel
theorem d_M_least_5 : decode b_M_least 5 = .ok (.iload_n 0, 1) := by decide +kernel
theorem d_M_least_6 : decode b_M_least 6 = .ok (.goto 4, 3) := by decide +kernel
theorem d_M_least_9 : decode b_M_least 9 = .ok (.iload_n 1, 1) := by decide +kernel
theorem d_M_least_10 : decode b_M_least 10 = .ok (.ireturn, 1) := by decide +kernel
theorem d_M_greatest_0 : decode b_M_greatest 0 = .ok (.iload_n 0, 1) := by decide +kernel
theorem d_M_greatest_1 : decode b_M_greatest 1 = .ok (.iload_n 1, 1) := by decide +kernel
theorem d_M_greatest_2 : decode b_M_greatest 2 = .ok (.if_icmp .le 7, 3) := by decide +kernel
theorem d_M_greatest_5 : decode b_M_greatest 5 = .ok (.iload_n 0, 1) := by decide +kernel
theorem d_M_greatest_6 : decode b_M_greatest 6 = .ok (.goto 4, 3) := by decide +kernel
theorem d_M_greatest_9 : decode b_M_greatest 9 = .ok (.iload_n 1, 1) := by decide +kernel
theorem d_M_greatest_10 : decode b_M_greatest 10 = .ok (.ireturn, 1) := by decide +kernel
theorem d_M_told_0 : decode b_M_told 0 = .ok (.bipush 12, 2) := by decide +kernel
theorem d_M_told_2 : decode b_M_told 2 = .ok (.iload_n 1, 1) := by decide +kernel
theorem d_M_told_3 : decode b_M_told 3 = .ok (.imul, 1) := by decide +kernel
theorem d_M_told_4 : decode b_M_told 4 = .ok (.iconst 3, 1) := by decide +kernel
theorem d_M_told_5 : decode b_M_told 5 = .ok (.iload_n 2, 1) := by decide +kernel
theorem d_M_told_6 : decode b_M_told 6 = .ok (.imul, 1) := by decide +kernel
theorem d_M_told_7 : decode b_M_told 7 = .ok (.iadd, 1) := by decide +kernel
theorem d_M_told_8 : decode b_M_told 8 = .ok (.istore 4, 2) := by decide +kernel
theorem d_M_told_10 : decode b_M_told 10 = .ok (.aload_n 0, 1) := by decide +kernel
theorem d_M_told_11 : decode b_M_told 11 = .ok (.getfield 57, 3) := by decide +kernel
theorem d_M_told_14 : decode b_M_told 14 = .ok (.iload 4, 2) := by decide +kernel
theorem d_M_told_16 : decode b_M_told 16 = .ok (.iaload, 1) := by decide +kernel
theorem d_M_told_17 : decode b_M_told 17 = .ok (.istore 5, 2) := by decide +kernel
theorem d_M_told_19 : decode b_M_told 19 = .ok (.aload_n 0, 1) := by decide +kernel
theorem d_M_told_20 : decode b_M_told 20 = .ok (.getfield 57, 3) := by decide +kernel
theorem d_M_told_23 : decode b_M_told 23 = .ok (.iload 4, 2) := by decide +kernel
theorem d_M_told_25 : decode b_M_told 25 = .ok (.iconst 1, 1) := by decide +kernel
