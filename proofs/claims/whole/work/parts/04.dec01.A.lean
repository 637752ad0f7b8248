theorem d_A_init_0 : decode b_A_init 0 = .ok (.aload_n 0, 1) := by decide +kernel
theorem d_A_init_1 : decode b_A_init 1 = .ok (.invokespecial 1, 3) := by decide +kernel
theorem d_A_init_4 : decode b_A_init 4 = .ok (.aload_n 0, 1) := by decide +kernel
theorem d_A_init_5 : decode b_A_init 5 = .ok (.bipush 8, 2) := by decide +kernel
theorem d_A_init_7 : decode b_A_init 7 = .ok (.anewarray 9, 3) := by decide +kernel
theorem d_A_init_10 : decode b_A_init 10 = .ok (.putfield 11, 3) := by decide +kernel
theorem d_A_init_13 : decode b_A_init 13 = .ok (.aload_n 0, 1) := by decide +kernel
theorem d_A_init_14 : decode b_A_init 14 = .ok (.bipush 6, 2) := by decide +kernel
theorem d_A_init_16 : decode b_A_init 16 = .ok (.anewarray 15, 3) := by decide +kernel
theorem d_A_init_19 : decode b_A_init 19 = .ok (.putfield 17, 3) := by decide +kernel
theorem d_A_init_22 : decode b_A_init 22 = .ok (.aload_n 0, 1) := by decide +kernel
theorem d_A_init_23 : decode b_A_init 23 = .ok (.bipush 8, 2) := by decide +kernel
theorem d_A_init_25 : decode b_A_init 25 = .ok (.anewarray 21, 3) := by decide +kernel
theorem d_A_init_28 : decode b_A_init 28 = .ok (.putfield 23, 3) := by decide +kernel
theorem d_A_init_31 : decode b_A_init 31 = .ok (.aload_n 0, 1) := by decide +kernel
theorem d_A_init_32 : decode b_A_init 32 = .ok (.new 27, 3) := by decide +kernel
theorem d_A_init_35 : decode b_A_init 35 = .ok (.dup, 1) := by decide +kernel
theorem d_A_init_36 : decode b_A_init 36 = .ok (.invokespecial 29, 3) := by decide +kernel
theorem d_A_init_39 : decode b_A_init 39 = .ok (.putfield 30, 3) := by decide +kernel
theorem d_A_init_42 : decode b_A_init 42 = .ok (.aload_n 0, 1) := by decide +kernel
theorem d_A_init_43 : decode b_A_init 43 = .ok (.bipush 50, 2) := by decide +kernel
theorem d_A_init_45 : decode b_A_init 45 = .ok (.putfield 34, 3) := by decide +kernel
theorem d_A_init_48 : decode b_A_init 48 = .ok (.return_, 1) := by decide +kernel
theorem d_A_batch_0 : decode b_A_batch 0 = .ok (.lload_n 1, 1) := by decide +kernel
theorem d_A_batch_1 : decode b_A_batch 1 = .ok (.lconst 1, 1) := by decide +kernel
theorem d_A_batch_2 : decode b_A_batch 2 = .ok (.ldc2_w 38, 3) := by decide +kernel
theorem d_A_batch_5 : decode b_A_batch 5 = .ok (.invokestatic 40, 3) := by decide +kernel
theorem d_A_batch_8 : decode b_A_batch 8 = .ok (.ifCond .eq 12, 3) := by decide +kernel
theorem d_A_batch_11 : decode b_A_batch 11 = .ok (.aload_n 0, 1) := by decide +kernel
theorem d_A_batch_12 : decode b_A_batch 12 = .ok (.getfield 44, 3) := by decide +kernel
theorem d_A_batch_15 : decode b_A_batch 15 = .ok (.bipush 8, 2) := by decide +kernel
theorem d_A_batch_17 : decode b_A_batch 17 = .ok (.if_icmp .lt 5, 3) := by decide +kernel
theorem d_A_batch_20 : decode b_A_batch 20 = .ok (.iconst (-1), 1) := by decide +kernel
theorem d_A_batch_21 : decode b_A_batch 21 = .ok (.ireturn, 1) := by decide +kernel
theorem d_A_batch_22 : decode b_A_batch 22 = .ok (.aload_n 0, 1) := by decide +kernel
theorem d_A_batch_23 : decode b_A_batch 23 = .ok (.new 9, 3) := by decide +kernel
theorem d_A_batch_26 : decode b_A_batch 26 = .ok (.dup, 1) := by decide +kernel
theorem d_A_batch_27 : decode b_A_batch 27 = .ok (.lload_n 1, 1) := by decide +kernel
theorem d_A_batch_28 : decode b_A_batch 28 = .ok (.aload_n 0, 1) := by decide +kernel
theorem d_A_batch_29 : decode b_A_batch 29 = .ok (.getfield 47, 3) := by decide +kernel
theorem d_A_batch_32 : decode b_A_batch 32 = .ok (.iconst 0, 1) := by decide +kernel
theorem d_A_batch_33 : decode b_A_batch 33 = .ok (.invokespecial 50, 3) := by decide +kernel
theorem d_A_batch_36 : decode b_A_batch 36 = .ok (.invokevirtual 53, 3) := by decide +kernel
theorem d_A_batch_39 : decode b_A_batch 39 = .ok (.ireturn, 1) := by decide +kernel
theorem d_A_parts_0 : decode b_A_parts 0 = .ok (.aload_n 0, 1) := by decide +kernel
theorem d_A_parts_1 : decode b_A_parts 1 = .ok (.iload_n 1, 1) := by decide +kernel
theorem d_A_parts_2 : decode b_A_parts 2 = .ok (.invokevirtual 57, 3) := by decide +kernel
theorem d_A_parts_5 : decode b_A_parts 5 = .ok (.astore 4, 2) := by decide +kernel
theorem d_A_parts_7 : decode b_A_parts 7 = .ok (.aload 4, 2) := by decide +kernel
theorem d_A_parts_9 : decode b_A_parts 9 = .ok (.ifnull 27, 3) := by decide +kernel
theorem d_A_parts_12 : decode b_A_parts 12 = .ok (.aload 4, 2) := by decide +kernel
theorem d_A_parts_14 : decode b_A_parts 14 = .ok (.getfield 61, 3) := by decide +kernel
theorem d_A_parts_17 : decode b_A_parts 17 = .ok (.ifCond .ne 19, 3) := by decide +kernel
theorem d_A_parts_20 : decode b_A_parts 20 = .ok (.aload 4, 2) := by decide +kernel
theorem d_A_parts_22 : decode b_A_parts 22 = .ok (.getfield 65, 3) := by decide +kernel
theorem d_A_parts_25 : decode b_A_parts 25 = .ok (.ifCond .ne 11, 3) := by decide +kernel
theorem d_A_parts_28 : decode b_A_parts 28 = .ok (.aload 4, 2) := by decide +kernel
theorem d_A_parts_30 : decode b_A_parts 30 = .ok (.getfield 68, 3) := by decide +kernel
theorem d_A_parts_33 : decode b_A_parts 33 = .ok (.ifCond .eq 5, 3) := by decide +kernel
theorem d_A_parts_36 : decode b_A_parts 36 = .ok (.iconst 0, 1) := by decide +kernel
theorem d_A_parts_37 : decode b_A_parts 37 = .ok (.ireturn, 1) := by decide +kernel
theorem d_A_parts_38 : decode b_A_parts 38 = .ok (.iload_n 2, 1) := by decide +kernel
theorem d_A_parts_39 : decode b_A_parts 39 = .ok (.invokestatic 71, 3) := by decide +kernel
theorem d_A_parts_42 : decode b_A_parts 42 = .ok (.ifCond .eq 15, 3) := by decide +kernel
theorem d_A_parts_45 : decode b_A_parts 45 = .ok (.iload_n 3, 1) := by decide +kernel
theorem d_A_parts_46 : decode b_A_parts 46 = .ok (.i2l, 1) := by decide +kernel
theorem d_A_parts_47 : decode b_A_parts 47 = .ok (.lconst 0, 1) := by decide +kernel
theorem d_A_parts_48 : decode b_A_parts 48 = .ok (.ldc2_w 75, 3) := by decide +kernel
theorem d_A_parts_51 : decode b_A_parts 51 = .ok (.invokestatic 40, 3) := by decide +kernel
theorem d_A_parts_54 : decode b_A_parts 54 = .ok (.ifCond .ne 5, 3) := by decide +kernel
theorem d_A_parts_57 : decode b_A_parts 57 = .ok (.iconst 0, 1) := by decide +kernel
theorem d_A_parts_58 : decode b_A_parts 58 = .ok (.ireturn, 1) := by decide +kernel
theorem d_A_parts_59 : decode b_A_parts 59 = .ok (.aload 4, 2) := by decide +kernel
theorem d_A_parts_61 : decode b_A_parts 61 = .ok (.getfield 77, 3) := by decide +kernel
theorem d_A_parts_64 : decode b_A_parts 64 = .ok (.iload_n 2, 1) := by decide +kernel
theorem d_A_parts_65 : decode b_A_parts 65 = .ok (.aload 4, 2) := by decide +kernel
theorem d_A_parts_67 : decode b_A_parts 67 = .ok (.getfield 81, 3) := by decide +kernel
theorem d_A_parts_70 : decode b_A_parts 70 = .ok (.iload_n 3, 1) := by decide +kernel
theorem d_A_parts_71 : decode b_A_parts 71 = .ok (.i2l, 1) := by decide +kernel
theorem d_A_parts_72 : decode b_A_parts 72 = .ok (.lmul, 1) := by decide +kernel
theorem d_A_parts_73 : decode b_A_parts 73 = .ok (.lastore, 1) := by decide +kernel
theorem d_A_parts_74 : decode b_A_parts 74 = .ok (.iconst 1, 1) := by decide +kernel
theorem d_A_parts_75 : decode b_A_parts 75 = .ok (.ireturn, 1) := by decide +kernel
theorem d_A_today_0 : decode b_A_today 0 = .ok (.iload_n 1, 1) := by decide +kernel
theorem d_A_today_1 : decode b_A_today 1 = .ok (.i2l, 1) := by decide +kernel
theorem d_A_today_2 : decode b_A_today 2 = .ok (.aload_n 0, 1) := by decide +kernel
theorem d_A_today_3 : decode b_A_today 3 = .ok (.getfield 47, 3) := by decide +kernel
theorem d_A_today_6 : decode b_A_today 6 = .ok (.i2l, 1) := by decide +kernel
theorem d_A_today_7 : decode b_A_today 7 = .ok (.ldc2_w 85, 3) := by decide +kernel
theorem d_A_today_10 : decode b_A_today 10 = .ok (.invokestatic 40, 3) := by decide +kernel
theorem d_A_today_13 : decode b_A_today 13 = .ok (.ifCond .ne 5, 3) := by decide +kernel
theorem d_A_today_16 : decode b_A_today 16 = .ok (.iconst 0, 1) := by decide +kernel
theorem d_A_today_17 : decode b_A_today 17 = .ok (.ireturn, 1) := by decide +kernel
theorem d_A_today_18 : decode b_A_today 18 = .ok (.aload_n 0, 1) := by decide +kernel
theorem d_A_today_19 : decode b_A_today 19 = .ok (.iload_n 1, 1) := by decide +kernel
theorem d_A_today_20 : decode b_A_today 20 = .ok (.putfield 47, 3) := by decide +kernel
theorem d_A_today_23 : decode b_A_today 23 = .ok (.iconst 1, 1) := by decide +kernel
theorem d_A_today_24 : decode b_A_today 24 = .ok (.ireturn, 1) := by decide +kernel
theorem d_A_stage_0 : decode b_A_stage 0 = .ok (.iload_n 1, 1) := by decide +kernel
theorem d_A_stage_1 : decode b_A_stage 1 = .ok (.invokestatic 71, 3) := by decide +kernel
theorem d_A_stage_4 : decode b_A_stage 4 = .ok (.ifCond .eq 12, 3) := by decide +kernel
theorem d_A_stage_7 : decode b_A_stage 7 = .ok (.aload_n 0, 1) := by decide +kernel
theorem d_A_stage_8 : decode b_A_stage 8 = .ok (.getfield 87, 3) := by decide +kernel
theorem d_A_stage_11 : decode b_A_stage 11 = .ok (.bipush 6, 2) := by decide +kernel
theorem d_A_stage_13 : decode b_A_stage 13 = .ok (.if_icmp .lt 5, 3) := by decide +kernel
theorem d_A_stage_16 : decode b_A_stage 16 = .ok (.iconst (-1), 1) := by decide +kernel
theorem d_A_stage_17 : decode b_A_stage 17 = .ok (.ireturn, 1) := by decide +kernel
theorem d_A_stage_18 : decode b_A_stage 18 = .ok (.iload_n 2, 1) := by decide +kernel
theorem d_A_stage_19 : decode b_A_stage 19 = .ok (.i2l, 1) := by decide +kernel
theorem d_A_stage_20 : decode b_A_stage 20 = .ok (.lconst 0, 1) := by decide +kernel
theorem d_A_stage_21 : decode b_A_stage 21 = .ok (.ldc2_w 90, 3) := by decide +kernel
theorem d_A_stage_24 : decode b_A_stage 24 = .ok (.invokestatic 40, 3) := by decide +kernel
theorem d_A_stage_27 : decode b_A_stage 27 = .ok (.ifCond .eq 15, 3) := by decide +kernel
theorem d_A_stage_30 : decode b_A_stage 30 = .ok (.iload_n 3, 1) := by decide +kernel
theorem d_A_stage_31 : decode b_A_stage 31 = .ok (.i2l, 1) := by decide +kernel
theorem d_A_stage_32 : decode b_A_stage 32 = .ok (.lconst 0, 1) := by decide +kernel
theorem d_A_stage_33 : decode b_A_stage 33 = .ok (.ldc2_w 90, 3) := by decide +kernel
theorem d_A_stage_36 : decode b_A_stage 36 = .ok (.invokestatic 40, 3) := by decide +kernel
theorem d_A_stage_39 : decode b_A_stage 39 = .ok (.ifCond .ne 5, 3) := by decide +kernel
theorem d_A_stage_42 : decode b_A_stage 42 = .ok (.iconst (-1), 1) := by decide +kernel
theorem d_A_stage_43 : decode b_A_stage 43 = .ok (.ireturn, 1) := by decide +kernel
theorem d_A_stage_44 : decode b_A_stage 44 = .ok (.aload_n 0, 1) := by decide +kernel
theorem d_A_stage_45 : decode b_A_stage 45 = .ok (.getfield 17, 3) := by decide +kernel
theorem d_A_stage_48 : decode b_A_stage 48 = .ok (.aload_n 0, 1) := by decide +kernel
theorem d_A_stage_49 : decode b_A_stage 49 = .ok (.getfield 87, 3) := by decide +kernel
theorem d_A_stage_52 : decode b_A_stage 52 = .ok (.new 15, 3) := by decide +kernel
theorem d_A_stage_55 : decode b_A_stage 55 = .ok (.dup, 1) := by decide +kernel
theorem d_A_stage_56 : decode b_A_stage 56 = .ok (.iload_n 1, 1) := by decide +kernel
theorem d_A_stage_57 : decode b_A_stage 57 = .ok (.iload_n 2, 1) := by decide +kernel
theorem d_A_stage_58 : decode b_A_stage 58 = .ok (.iload_n 3, 1) := by decide +kernel
theorem d_A_stage_59 : decode b_A_stage 59 = .ok (.invokespecial 92, 3) := by decide +kernel
theorem d_A_stage_62 : decode b_A_stage 62 = .ok (.aastore, 1) := by decide +kernel
theorem d_A_stage_63 : decode b_A_stage 63 = .ok (.aload_n 0, 1) := by decide +kernel
theorem d_A_stage_64 : decode b_A_stage 64 = .ok (.dup, 1) := by decide +kernel
theorem d_A_stage_65 : decode b_A_stage 65 = .ok (.getfield 87, 3) := by decide +kernel
theorem d_A_stage_68 : decode b_A_stage 68 = .ok (.iconst 1, 1) := by decide +kernel
theorem d_A_stage_69 : decode b_A_stage 69 = .ok (.iadd, 1) := by decide +kernel
theorem d_A_stage_70 : decode b_A_stage 70 = .ok (.putfield 87, 3) := by decide +kernel
theorem d_A_stage_73 : decode b_A_stage 73 = .ok (.aload_n 0, 1) := by decide +kernel
theorem d_A_stage_74 : decode b_A_stage 74 = .ok (.getfield 87, 3) := by decide +kernel
theorem d_A_stage_77 : decode b_A_stage 77 = .ok (.iconst 1, 1) := by decide +kernel
theorem d_A_stage_78 : decode b_A_stage 78 = .ok (.isub, 1) := by decide +kernel
theorem d_A_stage_79 : decode b_A_stage 79 = .ok (.ireturn, 1) := by decide +kernel
theorem d_A_run_0 : decode b_A_run 0 = .ok (.aload_n 0, 1) := by decide +kernel
theorem d_A_run_1 : decode b_A_run 1 = .ok (.iload_n 1, 1) := by decide +kernel
theorem d_A_run_2 : decode b_A_run 2 = .ok (.invokevirtual 57, 3) := by decide +kernel
theorem d_A_run_5 : decode b_A_run 5 = .ok (.astore_n 2, 1) := by decide +kernel
theorem d_A_run_6 : decode b_A_run 6 = .ok (.aload_n 2, 1) := by decide +kernel
theorem d_A_run_7 : decode b_A_run 7 = .ok (.ifnull 17, 3) := by decide +kernel
theorem d_A_run_10 : decode b_A_run 10 = .ok (.aload_n 2, 1) := by decide +kernel
theorem d_A_run_11 : decode b_A_run 11 = .ok (.getfield 61, 3) := by decide +kernel
theorem d_A_run_14 : decode b_A_run 14 = .ok (.ifCond .ne 10, 3) := by decide +kernel
theorem d_A_run_17 : decode b_A_run 17 = .ok (.aload_n 2, 1) := by decide +kernel
theorem d_A_run_18 : decode b_A_run 18 = .ok (.getfield 65, 3) := by decide +kernel
theorem d_A_run_21 : decode b_A_run 21 = .ok (.ifCond .eq 5, 3) := by decide +kernel
theorem d_A_run_24 : decode b_A_run 24 = .ok (.iconst (-1), 1) := by decide +kernel
theorem d_A_run_25 : decode b_A_run 25 = .ok (.ireturn, 1) := by decide +kernel
theorem d_A_run_26 : decode b_A_run 26 = .ok (.iconst 0, 1) := by decide +kernel
theorem d_A_run_27 : decode b_A_run 27 = .ok (.istore_n 3, 1) := by decide +kernel
theorem d_A_run_28 : decode b_A_run 28 = .ok (.iload_n 3, 1) := by decide +kernel
theorem d_A_run_29 : decode b_A_run 29 = .ok (.aload_n 0, 1) := by decide +kernel
theorem d_A_run_30 : decode b_A_run 30 = .ok (.getfield 87, 3) := by decide +kernel
theorem d_A_run_33 : decode b_A_run 33 = .ok (.if_icmp .ge 15, 3) := by decide +kernel
theorem d_A_run_36 : decode b_A_run 36 = .ok (.aload_n 0, 1) := by decide +kernel
theorem d_A_run_37 : decode b_A_run 37 = .ok (.aload_n 2, 1) := by decide +kernel
theorem d_A_run_38 : decode b_A_run 38 = .ok (.iload_n 3, 1) := by decide +kernel
theorem d_A_run_39 : decode b_A_run 39 = .ok (.invokevirtual 95, 3) := by decide +kernel
theorem d_A_run_42 : decode b_A_run 42 = .ok (.iinc 3 1, 3) := by decide +kernel
theorem d_A_run_45 : decode b_A_run 45 = .ok (.goto (-17), 3) := by decide +kernel
theorem d_A_run_48 : decode b_A_run 48 = .ok (.aload_n 2, 1) := by decide +kernel
theorem d_A_run_49 : decode b_A_run 49 = .ok (.iconst 1, 1) := by decide +kernel
theorem d_A_run_50 : decode b_A_run 50 = .ok (.putfield 65, 3) := by decide +kernel
theorem d_A_run_53 : decode b_A_run 53 = .ok (.aload_n 2, 1) := by decide +kernel
theorem d_A_run_54 : decode b_A_run 54 = .ok (.aload_n 0, 1) := by decide +kernel
theorem d_A_run_55 : decode b_A_run 55 = .ok (.getfield 87, 3) := by decide +kernel
theorem d_A_run_58 : decode b_A_run 58 = .ok (.putfield 99, 3) := by decide +kernel
theorem d_A_run_61 : decode b_A_run 61 = .ok (.aload_n 0, 1) := by decide +kernel
theorem d_A_run_62 : decode b_A_run 62 = .ok (.getfield 87, 3) := by decide +kernel
theorem d_A_run_65 : decode b_A_run 65 = .ok (.ireturn, 1) := by decide +kernel
theorem d_A_taken_0 : decode b_A_taken 0 = .ok (.aload_n 0, 1) := by decide +kernel
theorem d_A_taken_1 : decode b_A_taken 1 = .ok (.iload_n 1, 1) := by decide +kernel
theorem d_A_taken_2 : decode b_A_taken 2 = .ok (.invokevirtual 57, 3) := by decide +kernel
theorem d_A_taken_5 : decode b_A_taken 5 = .ok (.astore 4, 2) := by decide +kernel
theorem d_A_taken_7 : decode b_A_taken 7 = .ok (.aload 4, 2) := by decide +kernel
theorem d_A_taken_9 : decode b_A_taken 9 = .ok (.ifnull 10, 3) := by decide +kernel
theorem d_A_taken_12 : decode b_A_taken 12 = .ok (.iload_n 3, 1) := by decide +kernel
theorem d_A_taken_13 : decode b_A_taken 13 = .ok (.invokestatic 71, 3) := by decide +kernel
theorem d_A_taken_16 : decode b_A_taken 16 = .ok (.ifCond .ne 7, 3) := by decide +kernel
theorem d_A_taken_19 : decode b_A_taken 19 = .ok (.ldc2_w 102, 3) := by decide +kernel
theorem d_A_taken_22 : decode b_A_taken 22 = .ok (.lreturn, 1) := by decide +kernel
theorem d_A_taken_23 : decode b_A_taken 23 = .ok (.iload_n 2, 1) := by decide +kernel
theorem d_A_taken_24 : decode b_A_taken 24 = .ok (.ifCond .lt 18, 3) := by decide +kernel
theorem d_A_taken_27 : decode b_A_taken 27 = .ok (.iload_n 2, 1) := by decide +kernel
theorem d_A_taken_28 : decode b_A_taken 28 = .ok (.aload 4, 2) := by decide +kernel
theorem d_A_taken_30 : decode b_A_taken 30 = .ok (.getfield 99, 3) := by decide +kernel
theorem d_A_taken_33 : decode b_A_taken 33 = .ok (.if_icmp .ge 9, 3) := by decide +kernel
theorem d_A_taken_36 : decode b_A_taken 36 = .ok (.iload_n 2, 1) := by decide +kernel
theorem d_A_taken_37 : decode b_A_taken 37 = .ok (.bipush 6, 2) := by decide +kernel
theorem d_A_taken_39 : decode b_A_taken 39 = .ok (.if_icmp .lt 7, 3) := by decide +kernel
theorem d_A_taken_42 : decode b_A_taken 42 = .ok (.ldc2_w 102, 3) := by decide +kernel
theorem d_A_taken_45 : decode b_A_taken 45 = .ok (.lreturn, 1) := by decide +kernel
theorem d_A_taken_46 : decode b_A_taken 46 = .ok (.aload 4, 2) := by decide +kernel
theorem d_A_taken_48 : decode b_A_taken 48 = .ok (.getfield 104, 3) := by decide +kernel
theorem d_A_taken_51 : decode b_A_taken 51 = .ok (.iload_n 2, 1) := by decide +kernel
theorem d_A_taken_52 : decode b_A_taken 52 = .ok (.iconst 4, 1) := by decide +kernel
theorem d_A_taken_53 : decode b_A_taken 53 = .ok (.imul, 1) := by decide +kernel
theorem d_A_taken_54 : decode b_A_taken 54 = .ok (.iload_n 3, 1) := by decide +kernel
theorem d_A_taken_55 : decode b_A_taken 55 = .ok (.iadd, 1) := by decide +kernel
theorem d_A_taken_56 : decode b_A_taken 56 = .ok (.laload, 1) := by decide +kernel
theorem d_A_taken_57 : decode b_A_taken 57 = .ok (.lreturn, 1) := by decide +kernel
theorem d_A_left_0 : decode b_A_left 0 = .ok (.aload_n 0, 1) := by decide +kernel
theorem d_A_left_1 : decode b_A_left 1 = .ok (.iload_n 1, 1) := by decide +kernel
theorem d_A_left_2 : decode b_A_left 2 = .ok (.invokevirtual 57, 3) := by decide +kernel
theorem d_A_left_5 : decode b_A_left 5 = .ok (.astore_n 3, 1) := by decide +kernel
theorem d_A_left_6 : decode b_A_left 6 = .ok (.aload_n 3, 1) := by decide +kernel
theorem d_A_left_7 : decode b_A_left 7 = .ok (.ifnull 10, 3) := by decide +kernel
theorem d_A_left_10 : decode b_A_left 10 = .ok (.iload_n 2, 1) := by decide +kernel
theorem d_A_left_11 : decode b_A_left 11 = .ok (.invokestatic 71, 3) := by decide +kernel
theorem d_A_left_14 : decode b_A_left 14 = .ok (.ifCond .ne 7, 3) := by decide +kernel
theorem d_A_left_17 : decode b_A_left 17 = .ok (.ldc2_w 102, 3) := by decide +kernel
theorem d_A_left_20 : decode b_A_left 20 = .ok (.lreturn, 1) := by decide +kernel
theorem d_A_left_21 : decode b_A_left 21 = .ok (.aload_n 3, 1) := by decide +kernel
theorem d_A_left_22 : decode b_A_left 22 = .ok (.getfield 77, 3) := by decide +kernel
theorem d_A_left_25 : decode b_A_left 25 = .ok (.iload_n 2, 1) := by decide +kernel
theorem d_A_left_26 : decode b_A_left 26 = .ok (.laload, 1) := by decide +kernel
theorem d_A_left_27 : decode b_A_left 27 = .ok (.lreturn, 1) := by decide +kernel
theorem d_A_grams_0 : decode b_A_grams 0 = .ok (.aload_n 0, 1) := by decide +kernel
theorem d_A_grams_1 : decode b_A_grams 1 = .ok (.iload_n 1, 1) := by decide +kernel
theorem d_A_grams_2 : decode b_A_grams 2 = .ok (.invokevirtual 57, 3) := by decide +kernel
theorem d_A_grams_5 : decode b_A_grams 5 = .ok (.astore_n 2, 1) := by decide +kernel
theorem d_A_grams_6 : decode b_A_grams 6 = .ok (.aload_n 2, 1) := by decide +kernel
theorem d_A_grams_7 : decode b_A_grams 7 = .ok (.ifnonnull 9, 3) := by decide +kernel
theorem d_A_grams_10 : decode b_A_grams 10 = .ok (.ldc2_w 102, 3) := by decide +kernel
theorem d_A_grams_13 : decode b_A_grams 13 = .ok (.goto 7, 3) := by decide +kernel
theorem d_A_grams_16 : decode b_A_grams 16 = .ok (.aload_n 2, 1) := by decide +kernel
theorem d_A_grams_17 : decode b_A_grams 17 = .ok (.getfield 81, 3) := by decide +kernel
theorem d_A_grams_20 : decode b_A_grams 20 = .ok (.lreturn, 1) := by decide +kernel
theorem d_A_stock_0 : decode b_A_stock 0 = .ok (.aload_n 0, 1) := by decide +kernel
theorem d_A_stock_1 : decode b_A_stock 1 = .ok (.iload_n 1, 1) := by decide +kernel
theorem d_A_stock_2 : decode b_A_stock 2 = .ok (.invokevirtual 107, 3) := by decide +kernel
theorem d_A_stock_5 : decode b_A_stock 5 = .ok (.astore_n 3, 1) := by decide +kernel
theorem d_A_stock_6 : decode b_A_stock 6 = .ok (.aload_n 3, 1) := by decide +kernel
theorem d_A_stock_7 : decode b_A_stock 7 = .ok (.ifnull 10, 3) := by decide +kernel
theorem d_A_stock_10 : decode b_A_stock 10 = .ok (.iload_n 2, 1) := by decide +kernel
theorem d_A_stock_11 : decode b_A_stock 11 = .ok (.invokestatic 71, 3) := by decide +kernel
theorem d_A_stock_14 : decode b_A_stock 14 = .ok (.ifCond .ne 7, 3) := by decide +kernel
theorem d_A_stock_17 : decode b_A_stock 17 = .ok (.ldc2_w 102, 3) := by decide +kernel
theorem d_A_stock_20 : decode b_A_stock 20 = .ok (.lreturn, 1) := by decide +kernel
theorem d_A_stock_21 : decode b_A_stock 21 = .ok (.aload_n 3, 1) := by decide +kernel
theorem d_A_stock_22 : decode b_A_stock 22 = .ok (.getfield 111, 3) := by decide +kernel
theorem d_A_stock_25 : decode b_A_stock 25 = .ok (.iload_n 2, 1) := by decide +kernel
theorem d_A_stock_26 : decode b_A_stock 26 = .ok (.laload, 1) := by decide +kernel
theorem d_A_stock_27 : decode b_A_stock 27 = .ok (.lreturn, 1) := by decide +kernel
theorem d_A_price_0 : decode b_A_price 0 = .ok (.iload_n 1, 1) := by decide +kernel
theorem d_A_price_1 : decode b_A_price 1 = .ok (.invokestatic 71, 3) := by decide +kernel
theorem d_A_price_4 : decode b_A_price 4 = .ok (.ifCond .eq 26, 3) := by decide +kernel
theorem d_A_price_7 : decode b_A_price 7 = .ok (.iload_n 2, 1) := by decide +kernel
theorem d_A_price_8 : decode b_A_price 8 = .ok (.i2l, 1) := by decide +kernel
theorem d_A_price_9 : decode b_A_price 9 = .ok (.lconst 0, 1) := by decide +kernel
theorem d_A_price_10 : decode b_A_price 10 = .ok (.ldc2_w 85, 3) := by decide +kernel
theorem d_A_price_13 : decode b_A_price 13 = .ok (.invokestatic 40, 3) := by decide +kernel
theorem d_A_price_16 : decode b_A_price 16 = .ok (.ifCond .eq 14, 3) := by decide +kernel
theorem d_A_price_19 : decode b_A_price 19 = .ok (.lload_n 3, 1) := by decide +kernel
theorem d_A_price_20 : decode b_A_price 20 = .ok (.lconst 0, 1) := by decide +kernel
theorem d_A_price_21 : decode b_A_price 21 = .ok (.ldc2_w 75, 3) := by decide +kernel
theorem d_A_price_24 : decode b_A_price 24 = .ok (.invokestatic 40, 3) := by decide +kernel
theorem d_A_price_27 : decode b_A_price 27 = .ok (.ifCond .ne 5, 3) := by decide +kernel
theorem d_A_price_30 : decode b_A_price 30 = .ok (.iconst 0, 1) := by decide +kernel
theorem d_A_price_31 : decode b_A_price 31 = .ok (.ireturn, 1) := by decide +kernel
theorem d_A_price_32 : decode b_A_price 32 = .ok (.aload_n 0, 1) := by decide +kernel
theorem d_A_price_33 : decode b_A_price 33 = .ok (.getfield 30, 3) := by decide +kernel
theorem d_A_price_36 : decode b_A_price 36 = .ok (.iload_n 1, 1) := by decide +kernel
theorem d_A_price_37 : decode b_A_price 37 = .ok (.iload_n 2, 1) := by decide +kernel
theorem d_A_price_38 : decode b_A_price 38 = .ok (.lload_n 3, 1) := by decide +kernel
theorem d_A_price_39 : decode b_A_price 39 = .ok (.invokevirtual 114, 3) := by decide +kernel
theorem d_A_price_42 : decode b_A_price 42 = .ok (.ireturn, 1) := by decide +kernel
theorem d_A_worth_0 : decode b_A_worth 0 = .ok (.aload_n 0, 1) := by decide +kernel
theorem d_A_worth_1 : decode b_A_worth 1 = .ok (.iload_n 1, 1) := by decide +kernel
theorem d_A_worth_2 : decode b_A_worth 2 = .ok (.invokevirtual 57, 3) := by decide +kernel
theorem d_A_worth_5 : decode b_A_worth 5 = .ok (.astore_n 3, 1) := by decide +kernel
theorem d_A_worth_6 : decode b_A_worth 6 = .ok (.aload_n 3, 1) := by decide +kernel
theorem d_A_worth_7 : decode b_A_worth 7 = .ok (.ifnull 7, 3) := by decide +kernel
theorem d_A_worth_10 : decode b_A_worth 10 = .ok (.iload_n 2, 1) := by decide +kernel
theorem d_A_worth_11 : decode b_A_worth 11 = .ok (.ifCond .ge 7, 3) := by decide +kernel
theorem d_A_worth_14 : decode b_A_worth 14 = .ok (.ldc2_w 102, 3) := by decide +kernel
theorem d_A_worth_17 : decode b_A_worth 17 = .ok (.lreturn, 1) := by decide +kernel
theorem d_A_worth_18 : decode b_A_worth 18 = .ok (.aload_n 0, 1) := by decide +kernel
theorem d_A_worth_19 : decode b_A_worth 19 = .ok (.getfield 30, 3) := by decide +kernel
theorem d_A_worth_22 : decode b_A_worth 22 = .ok (.aload_n 3, 1) := by decide +kernel
theorem d_A_worth_23 : decode b_A_worth 23 = .ok (.getfield 77, 3) := by decide +kernel
theorem d_A_worth_26 : decode b_A_worth 26 = .ok (.iload_n 2, 1) := by decide +kernel
theorem d_A_worth_27 : decode b_A_worth 27 = .ok (.invokevirtual 118, 3) := by decide +kernel
theorem d_A_worth_30 : decode b_A_worth 30 = .ok (.lreturn, 1) := by decide +kernel
theorem d_A_sell_0 : decode b_A_sell 0 = .ok (.aload_n 0, 1) := by decide +kernel
theorem d_A_sell_1 : decode b_A_sell 1 = .ok (.iload_n 1, 1) := by decide +kernel
theorem d_A_sell_2 : decode b_A_sell 2 = .ok (.invokevirtual 107, 3) := by decide +kernel
theorem d_A_sell_5 : decode b_A_sell 5 = .ok (.astore_n 2, 1) := by decide +kernel
theorem d_A_sell_6 : decode b_A_sell 6 = .ok (.aload_n 2, 1) := by decide +kernel
theorem d_A_sell_7 : decode b_A_sell 7 = .ok (.ifnonnull 7, 3) := by decide +kernel
theorem d_A_sell_10 : decode b_A_sell 10 = .ok (.ldc2_w 102, 3) := by decide +kernel
theorem d_A_sell_13 : decode b_A_sell 13 = .ok (.lreturn, 1) := by decide +kernel
theorem d_A_sell_14 : decode b_A_sell 14 = .ok (.aload_n 0, 1) := by decide +kernel
theorem d_A_sell_15 : decode b_A_sell 15 = .ok (.getfield 30, 3) := by decide +kernel
theorem d_A_sell_18 : decode b_A_sell 18 = .ok (.aload_n 2, 1) := by decide +kernel
theorem d_A_sell_19 : decode b_A_sell 19 = .ok (.getfield 111, 3) := by decide +kernel
theorem d_A_sell_22 : decode b_A_sell 22 = .ok (.aload_n 0, 1) := by decide +kernel
theorem d_A_sell_23 : decode b_A_sell 23 = .ok (.getfield 47, 3) := by decide +kernel
theorem d_A_sell_26 : decode b_A_sell 26 = .ok (.invokevirtual 118, 3) := by decide +kernel
theorem d_A_sell_29 : decode b_A_sell 29 = .ok (.lstore_n 3, 1) := by decide +kernel
theorem d_A_sell_30 : decode b_A_sell 30 = .ok (.aload_n 2, 1) := by decide +kernel
theorem d_A_sell_31 : decode b_A_sell 31 = .ok (.getfield 111, 3) := by decide +kernel
theorem d_A_sell_34 : decode b_A_sell 34 = .ok (.lconst 0, 1) := by decide +kernel
theorem d_A_sell_35 : decode b_A_sell 35 = .ok (.invokestatic 122, 3) := by decide +kernel
theorem d_A_sell_38 : decode b_A_sell 38 = .ok (.aload_n 0, 1) := by decide +kernel
theorem d_A_sell_39 : decode b_A_sell 39 = .ok (.dup, 1) := by decide +kernel
theorem d_A_sell_40 : decode b_A_sell 40 = .ok (.getfield 128, 3) := by decide +kernel
theorem d_A_sell_43 : decode b_A_sell 43 = .ok (.lload_n 3, 1) := by decide +kernel
theorem d_A_sell_44 : decode b_A_sell 44 = .ok (.ladd, 1) := by decide +kernel
theorem d_A_sell_45 : decode b_A_sell 45 = .ok (.putfield 128, 3) := by decide +kernel
theorem d_A_sell_48 : decode b_A_sell 48 = .ok (.lload_n 3, 1) := by decide +kernel
theorem d_A_sell_49 : decode b_A_sell 49 = .ok (.lreturn, 1) := by decide +kernel
theorem d_A_money_0 : decode b_A_money 0 = .ok (.aload_n 0, 1) := by decide +kernel
theorem d_A_money_1 : decode b_A_money 1 = .ok (.getfield 128, 3) := by decide +kernel
theorem d_A_money_4 : decode b_A_money 4 = .ok (.lreturn, 1) := by decide +kernel
theorem d_A_assay_0 : decode b_A_assay 0 = .ok (.aload_n 0, 1) := by decide +kernel
theorem d_A_assay_1 : decode b_A_assay 1 = .ok (.iload_n 1, 1) := by decide +kernel
theorem d_A_assay_2 : decode b_A_assay 2 = .ok (.invokevirtual 57, 3) := by decide +kernel
theorem d_A_assay_5 : decode b_A_assay 5 = .ok (.astore 5, 2) := by decide +kernel
theorem d_A_assay_7 : decode b_A_assay 7 = .ok (.aload 5, 2) := by decide +kernel
theorem d_A_assay_9 : decode b_A_assay 9 = .ok (.ifnull 18, 3) := by decide +kernel
theorem d_A_assay_12 : decode b_A_assay 12 = .ok (.aload 5, 2) := by decide +kernel
theorem d_A_assay_14 : decode b_A_assay 14 = .ok (.getfield 61, 3) := by decide +kernel
theorem d_A_assay_17 : decode b_A_assay 17 = .ok (.ifCond .ne 10, 3) := by decide +kernel
theorem d_A_assay_20 : decode b_A_assay 20 = .ok (.iload_n 3, 1) := by decide +kernel
theorem d_A_assay_21 : decode b_A_assay 21 = .ok (.invokestatic 71, 3) := by decide +kernel
theorem d_A_assay_24 : decode b_A_assay 24 = .ok (.ifCond .ne 5, 3) := by decide +kernel
theorem d_A_assay_27 : decode b_A_assay 27 = .ok (.iconst 0, 1) := by decide +kernel
theorem d_A_assay_28 : decode b_A_assay 28 = .ok (.ireturn, 1) := by decide +kernel
theorem d_A_assay_29 : decode b_A_assay 29 = .ok (.iload_n 2, 1) := by decide +kernel
theorem d_A_assay_30 : decode b_A_assay 30 = .ok (.i2l, 1) := by decide +kernel
theorem d_A_assay_31 : decode b_A_assay 31 = .ok (.lconst 0, 1) := by decide +kernel
theorem d_A_assay_32 : decode b_A_assay 32 = .ok (.ldc2_w 131, 3) := by decide +kernel
theorem d_A_assay_35 : decode b_A_assay 35 = .ok (.invokestatic 40, 3) := by decide +kernel
theorem d_A_assay_38 : decode b_A_assay 38 = .ok (.ifCond .eq 16, 3) := by decide +kernel
theorem d_A_assay_41 : decode b_A_assay 41 = .ok (.iload 4, 2) := by decide +kernel
theorem d_A_assay_43 : decode b_A_assay 43 = .ok (.i2l, 1) := by decide +kernel
theorem d_A_assay_44 : decode b_A_assay 44 = .ok (.lconst 0, 1) := by decide +kernel
theorem d_A_assay_45 : decode b_A_assay 45 = .ok (.ldc2_w 75, 3) := by decide +kernel
theorem d_A_assay_48 : decode b_A_assay 48 = .ok (.invokestatic 40, 3) := by decide +kernel
theorem d_A_assay_51 : decode b_A_assay 51 = .ok (.ifCond .ne 5, 3) := by decide +kernel
theorem d_A_assay_54 : decode b_A_assay 54 = .ok (.iconst 0, 1) := by decide +kernel
theorem d_A_assay_55 : decode b_A_assay 55 = .ok (.ireturn, 1) := by decide +kernel
theorem d_A_assay_56 : decode b_A_assay 56 = .ok (.aload 5, 2) := by decide +kernel
theorem d_A_assay_58 : decode b_A_assay 58 = .ok (.getfield 133, 3) := by decide +kernel
theorem d_A_assay_61 : decode b_A_assay 61 = .ok (.iload_n 3, 1) := by decide +kernel
theorem d_A_assay_62 : decode b_A_assay 62 = .ok (.iconst 3, 1) := by decide +kernel
theorem d_A_assay_63 : decode b_A_assay 63 = .ok (.imul, 1) := by decide +kernel
theorem d_A_assay_64 : decode b_A_assay 64 = .ok (.iload_n 2, 1) := by decide +kernel
theorem d_A_assay_65 : decode b_A_assay 65 = .ok (.iadd, 1) := by decide +kernel
theorem d_A_assay_66 : decode b_A_assay 66 = .ok (.iload 4, 2) := by decide +kernel
theorem d_A_assay_68 : decode b_A_assay 68 = .ok (.iastore, 1) := by decide +kernel
theorem d_A_assay_69 : decode b_A_assay 69 = .ok (.iconst 1, 1) := by decide +kernel
theorem d_A_assay_70 : decode b_A_assay 70 = .ok (.ireturn, 1) := by decide +kernel
theorem d_A_settled_0 : decode b_A_settled 0 = .ok (.aload_n 0, 1) := by decide +kernel
theorem d_A_settled_1 : decode b_A_settled 1 = .ok (.iload_n 1, 1) := by decide +kernel
theorem d_A_settled_2 : decode b_A_settled 2 = .ok (.invokevirtual 57, 3) := by decide +kernel
theorem d_A_settled_5 : decode b_A_settled 5 = .ok (.astore_n 3, 1) := by decide +kernel
theorem d_A_settled_6 : decode b_A_settled 6 = .ok (.aload_n 3, 1) := by decide +kernel
theorem d_A_settled_7 : decode b_A_settled 7 = .ok (.ifnull 10, 3) := by decide +kernel
theorem d_A_settled_10 : decode b_A_settled 10 = .ok (.iload_n 2, 1) := by decide +kernel
theorem d_A_settled_11 : decode b_A_settled 11 = .ok (.invokestatic 71, 3) := by decide +kernel
theorem d_A_settled_14 : decode b_A_settled 14 = .ok (.ifCond .ne 5, 3) := by decide +kernel
theorem d_A_settled_17 : decode b_A_settled 17 = .ok (.iconst (-1), 1) := by decide +kernel
theorem d_A_settled_18 : decode b_A_settled 18 = .ok (.ireturn, 1) := by decide +kernel
theorem d_A_settled_19 : decode b_A_settled 19 = .ok (.aload_n 3, 1) := by decide +kernel
theorem d_A_settled_20 : decode b_A_settled 20 = .ok (.iload_n 2, 1) := by decide +kernel
theorem d_A_settled_21 : decode b_A_settled 21 = .ok (.invokevirtual 137, 3) := by decide +kernel
theorem d_A_settled_24 : decode b_A_settled 24 = .ok (.ireturn, 1) := by decide +kernel
theorem d_A_disputed_0 : decode b_A_disputed 0 = .ok (.aload_n 0, 1) := by decide +kernel
theorem d_A_disputed_1 : decode b_A_disputed 1 = .ok (.iload_n 1, 1) := by decide +kernel
theorem d_A_disputed_2 : decode b_A_disputed 2 = .ok (.invokevirtual 57, 3) := by decide +kernel
theorem d_A_disputed_5 : decode b_A_disputed 5 = .ok (.astore_n 3, 1) := by decide +kernel
theorem d_A_disputed_6 : decode b_A_disputed 6 = .ok (.aload_n 3, 1) := by decide +kernel
theorem d_A_disputed_7 : decode b_A_disputed 7 = .ok (.ifnull 26, 3) := by decide +kernel
theorem d_A_disputed_10 : decode b_A_disputed 10 = .ok (.iload_n 2, 1) := by decide +kernel
theorem d_A_disputed_11 : decode b_A_disputed 11 = .ok (.invokestatic 71, 3) := by decide +kernel
theorem d_A_disputed_14 : decode b_A_disputed 14 = .ok (.ifCond .eq 19, 3) := by decide +kernel
theorem d_A_disputed_17 : decode b_A_disputed 17 = .ok (.aload_n 3, 1) := by decide +kernel
theorem d_A_disputed_18 : decode b_A_disputed 18 = .ok (.iload_n 2, 1) := by decide +kernel
theorem d_A_disputed_19 : decode b_A_disputed 19 = .ok (.invokevirtual 141, 3) := by decide +kernel
theorem d_A_disputed_22 : decode b_A_disputed 22 = .ok (.aload_n 0, 1) := by decide +kernel
theorem d_A_disputed_23 : decode b_A_disputed 23 = .ok (.getfield 34, 3) := by decide +kernel
theorem d_A_disputed_26 : decode b_A_disputed 26 = .ok (.if_icmp .le 7, 3) := by decide +kernel
theorem d_A_disputed_29 : decode b_A_disputed 29 = .ok (.iconst 1, 1) := by decide +kernel
theorem d_A_disputed_30 : decode b_A_disputed 30 = .ok (.goto 4, 3) := by decide +kernel
theorem d_A_disputed_33 : decode b_A_disputed 33 = .ok (.iconst 0, 1) := by decide +kernel
theorem d_A_disputed_34 : decode b_A_disputed 34 = .ok (.ireturn, 1) := by decide +kernel
theorem d_A_tolerance_0 : decode b_A_tolerance 0 = .ok (.iload_n 1, 1) := by decide +kernel
theorem d_A_tolerance_1 : decode b_A_tolerance 1 = .ok (.i2l, 1) := by decide +kernel
theorem d_A_tolerance_2 : decode b_A_tolerance 2 = .ok (.lconst 0, 1) := by decide +kernel
