theorem d_mCount_14 : decode b_mCount 14 = .ok (.iconst (-1), 1) := by decide +kernel
theorem d_mCount_15 : decode b_mCount 15 = .ok (.ireturn, 1) := by decide +kernel
theorem d_mCount_16 : decode b_mCount 16 = .ok (.iconst 0, 1) := by decide +kernel
theorem d_mCount_17 : decode b_mCount 17 = .ok (.istore_n 2, 1) := by decide +kernel
theorem d_mCount_18 : decode b_mCount 18 = .ok (.iconst 0, 1) := by decide +kernel
theorem d_mCount_19 : decode b_mCount 19 = .ok (.istore_n 3, 1) := by decide +kernel
theorem d_mCount_20 : decode b_mCount 20 = .ok (.iload_n 3, 1) := by decide +kernel
theorem d_mCount_21 : decode b_mCount 21 = .ok (.aload_n 0, 1) := by decide +kernel
theorem d_mCount_22 : decode b_mCount 22 = .ok (.getfield 68, 3) := by decide +kernel
theorem d_mCount_25 : decode b_mCount 25 = .ok (.if_icmp .gt 35, 3) := by decide +kernel
theorem d_mCount_28 : decode b_mCount 28 = .ok (.iload_n 1, 1) := by decide +kernel
theorem d_mCount_29 : decode b_mCount 29 = .ok (.ifCond .le 31, 3) := by decide +kernel
theorem d_mCount_32 : decode b_mCount 32 = .ok (.aload_n 0, 1) := by decide +kernel
theorem d_mCount_33 : decode b_mCount 33 = .ok (.iload_n 3, 1) := by decide +kernel
theorem d_mCount_34 : decode b_mCount 34 = .ok (.invokevirtual 135, 3) := by decide +kernel
theorem d_mCount_37 : decode b_mCount 37 = .ok (.pop, 1) := by decide +kernel
theorem d_mCount_38 : decode b_mCount 38 = .ok (.aload_n 0, 1) := by decide +kernel
theorem d_mCount_39 : decode b_mCount 39 = .ok (.getfield 80, 3) := by decide +kernel
theorem d_mCount_42 : decode b_mCount 42 = .ok (.iload_n 1, 1) := by decide +kernel
theorem d_mCount_43 : decode b_mCount 43 = .ok (.if_icmp .ne 9, 3) := by decide +kernel
theorem d_mCount_46 : decode b_mCount 46 = .ok (.iload_n 2, 1) := by decide +kernel
theorem d_mCount_47 : decode b_mCount 47 = .ok (.iconst 1, 1) := by decide +kernel
theorem d_mCount_48 : decode b_mCount 48 = .ok (.iadd, 1) := by decide +kernel
theorem d_mCount_49 : decode b_mCount 49 = .ok (.goto 4, 3) := by decide +kernel
theorem d_mCount_52 : decode b_mCount 52 = .ok (.iload_n 2, 1) := by decide +kernel
theorem d_mCount_53 : decode b_mCount 53 = .ok (.istore_n 2, 1) := by decide +kernel
theorem d_mCount_54 : decode b_mCount 54 = .ok (.iinc 3 1, 3) := by decide +kernel
theorem d_mCount_57 : decode b_mCount 57 = .ok (.goto (-37), 3) := by decide +kernel
theorem d_mCount_60 : decode b_mCount 60 = .ok (.iload_n 1, 1) := by decide +kernel
theorem d_mCount_61 : decode b_mCount 61 = .ok (.ifCond .ne 10, 3) := by decide +kernel
theorem d_mCount_64 : decode b_mCount 64 = .ok (.aload_n 0, 1) := by decide +kernel
theorem d_mCount_65 : decode b_mCount 65 = .ok (.getfield 68, 3) := by decide +kernel
theorem d_mCount_68 : decode b_mCount 68 = .ok (.goto 4, 3) := by decide +kernel
theorem d_mCount_71 : decode b_mCount 71 = .ok (.iload_n 2, 1) := by decide +kernel
theorem d_mCount_72 : decode b_mCount 72 = .ok (.ireturn, 1) := by decide +kernel
