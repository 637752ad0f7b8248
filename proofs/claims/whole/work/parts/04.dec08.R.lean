theorem d_R_init_0 : decode b_R_init 0 = .ok (.aload_n 0, 1) := by decide +kernel
theorem d_R_init_1 : decode b_R_init 1 = .ok (.invokespecial 3, 3) := by decide +kernel
theorem d_R_init_4 : decode b_R_init 4 = .ok (.aload_n 0, 1) := by decide +kernel
theorem d_R_init_5 : decode b_R_init 5 = .ok (.iload_n 1, 1) := by decide +kernel
theorem d_R_init_6 : decode b_R_init 6 = .ok (.putfield 9, 3) := by decide +kernel
theorem d_R_init_9 : decode b_R_init 9 = .ok (.aload_n 0, 1) := by decide +kernel
theorem d_R_init_10 : decode b_R_init 10 = .ok (.iload_n 2, 1) := by decide +kernel
theorem d_R_init_11 : decode b_R_init 11 = .ok (.putfield 15, 3) := by decide +kernel
theorem d_R_init_14 : decode b_R_init 14 = .ok (.aload_n 0, 1) := by decide +kernel
theorem d_R_init_15 : decode b_R_init 15 = .ok (.iload_n 3, 1) := by decide +kernel
theorem d_R_init_16 : decode b_R_init 16 = .ok (.putfield 18, 3) := by decide +kernel
theorem d_R_init_19 : decode b_R_init 19 = .ok (.aload_n 0, 1) := by decide +kernel
theorem d_R_init_20 : decode b_R_init 20 = .ok (.iload 4, 2) := by decide +kernel
theorem d_R_init_22 : decode b_R_init 22 = .ok (.putfield 21, 3) := by decide +kernel
theorem d_R_init_25 : decode b_R_init 25 = .ok (.return_, 1) := by decide +kernel
theorem d_R_fits_0 : decode b_R_fits 0 = .ok (.aload_n 1, 1) := by decide +kernel
theorem d_R_fits_1 : decode b_R_fits 1 = .ok (.aload_n 0, 1) := by decide +kernel
theorem d_R_fits_2 : decode b_R_fits 2 = .ok (.getfield 15, 3) := by decide +kernel
theorem d_R_fits_5 : decode b_R_fits 5 = .ok (.invokevirtual 24, 3) := by decide +kernel
theorem d_R_fits_8 : decode b_R_fits 8 = .ok (.istore 4, 2) := by decide +kernel
theorem d_R_fits_10 : decode b_R_fits 10 = .ok (.iload 4, 2) := by decide +kernel
theorem d_R_fits_12 : decode b_R_fits 12 = .ok (.iconst (-1), 1) := by decide +kernel
theorem d_R_fits_13 : decode b_R_fits 13 = .ok (.if_icmp .eq 41, 3) := by decide +kernel
theorem d_R_fits_16 : decode b_R_fits 16 = .ok (.iload 4, 2) := by decide +kernel
theorem d_R_fits_18 : decode b_R_fits 18 = .ok (.aload_n 0, 1) := by decide +kernel
theorem d_R_fits_19 : decode b_R_fits 19 = .ok (.getfield 18, 3) := by decide +kernel
theorem d_R_fits_22 : decode b_R_fits 22 = .ok (.if_icmp .gt 32, 3) := by decide +kernel
theorem d_R_fits_25 : decode b_R_fits 25 = .ok (.aload_n 1, 1) := by decide +kernel
theorem d_R_fits_26 : decode b_R_fits 26 = .ok (.aload_n 0, 1) := by decide +kernel
theorem d_R_fits_27 : decode b_R_fits 27 = .ok (.getfield 15, 3) := by decide +kernel
theorem d_R_fits_30 : decode b_R_fits 30 = .ok (.invokevirtual 30, 3) := by decide +kernel
theorem d_R_fits_33 : decode b_R_fits 33 = .ok (.iload_n 3, 1) := by decide +kernel
theorem d_R_fits_34 : decode b_R_fits 34 = .ok (.if_icmp .gt 20, 3) := by decide +kernel
theorem d_R_fits_37 : decode b_R_fits 37 = .ok (.aload_n 0, 1) := by decide +kernel
theorem d_R_fits_38 : decode b_R_fits 38 = .ok (.getfield 21, 3) := by decide +kernel
theorem d_R_fits_41 : decode b_R_fits 41 = .ok (.iload_n 2, 1) := by decide +kernel
theorem d_R_fits_42 : decode b_R_fits 42 = .ok (.aload_n 1, 1) := by decide +kernel
theorem d_R_fits_43 : decode b_R_fits 43 = .ok (.getfield 33, 3) := by decide +kernel
theorem d_R_fits_46 : decode b_R_fits 46 = .ok (.isub, 1) := by decide +kernel
theorem d_R_fits_47 : decode b_R_fits 47 = .ok (.if_icmp .gt 7, 3) := by decide +kernel
theorem d_R_fits_50 : decode b_R_fits 50 = .ok (.iconst 1, 1) := by decide +kernel
theorem d_R_fits_51 : decode b_R_fits 51 = .ok (.goto 4, 3) := by decide +kernel
theorem d_R_fits_54 : decode b_R_fits 54 = .ok (.iconst 0, 1) := by decide +kernel
theorem d_R_fits_55 : decode b_R_fits 55 = .ok (.ireturn, 1) := by decide +kernel
