theorem d_S_init_0 : decode b_S_init 0 = .ok (.aload_n 0, 1) := by decide +kernel
theorem d_S_init_1 : decode b_S_init 1 = .ok (.invokespecial 3, 3) := by decide +kernel
theorem d_S_init_4 : decode b_S_init 4 = .ok (.aload_n 0, 1) := by decide +kernel
theorem d_S_init_5 : decode b_S_init 5 = .ok (.iload_n 1, 1) := by decide +kernel
theorem d_S_init_6 : decode b_S_init 6 = .ok (.putfield 9, 3) := by decide +kernel
theorem d_S_init_9 : decode b_S_init 9 = .ok (.aload_n 0, 1) := by decide +kernel
theorem d_S_init_10 : decode b_S_init 10 = .ok (.iload_n 2, 1) := by decide +kernel
theorem d_S_init_11 : decode b_S_init 11 = .ok (.putfield 15, 3) := by decide +kernel
theorem d_S_init_14 : decode b_S_init 14 = .ok (.aload_n 0, 1) := by decide +kernel
theorem d_S_init_15 : decode b_S_init 15 = .ok (.iload_n 3, 1) := by decide +kernel
theorem d_S_init_16 : decode b_S_init 16 = .ok (.putfield 18, 3) := by decide +kernel
theorem d_S_init_19 : decode b_S_init 19 = .ok (.aload_n 0, 1) := by decide +kernel
theorem d_S_init_20 : decode b_S_init 20 = .ok (.iconst 4, 1) := by decide +kernel
theorem d_S_init_21 : decode b_S_init 21 = .ok (.newarray .long, 2) := by decide +kernel
theorem d_S_init_23 : decode b_S_init 23 = .ok (.putfield 21, 3) := by decide +kernel
theorem d_S_init_26 : decode b_S_init 26 = .ok (.return_, 1) := by decide +kernel
theorem d_S_thousandthsOf_0 : decode b_S_thousandthsOf 0 = .ok (.iload_n 1, 1) := by decide +kernel
theorem d_S_thousandthsOf_1 : decode b_S_thousandthsOf 1 = .ok (.aload_n 0, 1) := by decide +kernel
theorem d_S_thousandthsOf_2 : decode b_S_thousandthsOf 2 = .ok (.getfield 9, 3) := by decide +kernel
theorem d_S_thousandthsOf_5 : decode b_S_thousandthsOf 5 = .ok (.if_icmp .ne 10, 3) := by decide +kernel
theorem d_S_thousandthsOf_8 : decode b_S_thousandthsOf 8 = .ok (.aload_n 0, 1) := by decide +kernel
theorem d_S_thousandthsOf_9 : decode b_S_thousandthsOf 9 = .ok (.getfield 15, 3) := by decide +kernel
theorem d_S_thousandthsOf_12 : decode b_S_thousandthsOf 12 = .ok (.goto 7, 3) := by decide +kernel
theorem d_S_thousandthsOf_15 : decode b_S_thousandthsOf 15 = .ok (.aload_n 0, 1) := by decide +kernel
theorem d_S_thousandthsOf_16 : decode b_S_thousandthsOf 16 = .ok (.getfield 18, 3) := by decide +kernel
theorem d_S_thousandthsOf_19 : decode b_S_thousandthsOf 19 = .ok (.ireturn, 1) := by decide +kernel
