theorem d_mFit_43 : decode b_mFit 43 = .ok (.if_icmp .ne 5, 3) := by decide +kernel
theorem d_mFit_46 : decode b_mFit 46 = .ok (.iconst 0, 1) := by decide +kernel
theorem d_mFit_47 : decode b_mFit 47 = .ok (.ireturn, 1) := by decide +kernel
theorem d_mFit_48 : decode b_mFit 48 = .ok (.iconst (-1), 1) := by decide +kernel
theorem d_mFit_49 : decode b_mFit 49 = .ok (.istore_n 3, 1) := by decide +kernel
theorem d_mFit_50 : decode b_mFit 50 = .ok (.aload_n 0, 1) := by decide +kernel
theorem d_mFit_51 : decode b_mFit 51 = .ok (.iconst 0, 1) := by decide +kernel
theorem d_mFit_52 : decode b_mFit 52 = .ok (.putfield 80, 3) := by decide +kernel
theorem d_mFit_55 : decode b_mFit 55 = .ok (.iload_n 1, 1) := by decide +kernel
theorem d_mFit_56 : decode b_mFit 56 = .ok (.iconst 1, 1) := by decide +kernel
theorem d_mFit_57 : decode b_mFit 57 = .ok (.iadd, 1) := by decide +kernel
theorem d_mFit_58 : decode b_mFit 58 = .ok (.istore 4, 2) := by decide +kernel
theorem d_mFit_60 : decode b_mFit 60 = .ok (.iload 4, 2) := by decide +kernel
theorem d_mFit_62 : decode b_mFit 62 = .ok (.aload_n 0, 1) := by decide +kernel
theorem d_mFit_63 : decode b_mFit 63 = .ok (.getfield 68, 3) := by decide +kernel
theorem d_mFit_66 : decode b_mFit 66 = .ok (.if_icmp .gt 76, 3) := by decide +kernel
theorem d_mFit_69 : decode b_mFit 69 = .ok (.aload_n 0, 1) := by decide +kernel
theorem d_mFit_70 : decode b_mFit 70 = .ok (.getfield 80, 3) := by decide +kernel
theorem d_mFit_73 : decode b_mFit 73 = .ok (.iconst 2, 1) := by decide +kernel
theorem d_mFit_74 : decode b_mFit 74 = .ok (.if_icmp .eq 68, 3) := by decide +kernel
theorem d_mFit_77 : decode b_mFit 77 = .ok (.iload 4, 2) := by decide +kernel
theorem d_mFit_79 : decode b_mFit 79 = .ok (.istore 5, 2) := by decide +kernel
theorem d_mFit_81 : decode b_mFit 81 = .ok (.iload 5, 2) := by decide +kernel
theorem d_mFit_83 : decode b_mFit 83 = .ok (.iload_n 1, 1) := by decide +kernel
theorem d_mFit_84 : decode b_mFit 84 = .ok (.if_icmp .le 23, 3) := by decide +kernel
theorem d_mFit_87 : decode b_mFit 87 = .ok (.aload_n 0, 1) := by decide +kernel
theorem d_mFit_88 : decode b_mFit 88 = .ok (.iload 5, 2) := by decide +kernel
theorem d_mFit_90 : decode b_mFit 90 = .ok (.iconst 1, 1) := by decide +kernel
theorem d_mFit_91 : decode b_mFit 91 = .ok (.isub, 1) := by decide +kernel
theorem d_mFit_92 : decode b_mFit 92 = .ok (.invokevirtual 71, 3) := by decide +kernel
theorem d_mFit_95 : decode b_mFit 95 = .ok (.invokestatic 138, 3) := by decide +kernel
theorem d_mFit_98 : decode b_mFit 98 = .ok (.ifCond .eq 9, 3) := by decide +kernel
theorem d_mFit_101 : decode b_mFit 101 = .ok (.iinc 5 (-1), 3) := by decide +kernel
theorem d_mFit_104 : decode b_mFit 104 = .ok (.goto (-23), 3) := by decide +kernel
theorem d_mFit_107 : decode b_mFit 107 = .ok (.aload_n 0, 1) := by decide +kernel
theorem d_mFit_108 : decode b_mFit 108 = .ok (.iload 4, 2) := by decide +kernel
theorem d_mFit_110 : decode b_mFit 110 = .ok (.invokevirtual 135, 3) := by decide +kernel
theorem d_mFit_113 : decode b_mFit 113 = .ok (.pop, 1) := by decide +kernel
theorem d_mFit_114 : decode b_mFit 114 = .ok (.aload_n 0, 1) := by decide +kernel
theorem d_mFit_115 : decode b_mFit 115 = .ok (.getfield 80, 3) := by decide +kernel
theorem d_mFit_118 : decode b_mFit 118 = .ok (.ifCond .eq 16, 3) := by decide +kernel
theorem d_mFit_121 : decode b_mFit 121 = .ok (.iload 5, 2) := by decide +kernel
theorem d_mFit_123 : decode b_mFit 123 = .ok (.iload_n 1, 1) := by decide +kernel
theorem d_mFit_124 : decode b_mFit 124 = .ok (.isub, 1) := by decide +kernel
theorem d_mFit_125 : decode b_mFit 125 = .ok (.iload_n 2, 1) := by decide +kernel
theorem d_mFit_126 : decode b_mFit 126 = .ok (.if_icmp .gt 8, 3) := by decide +kernel
theorem d_mFit_129 : decode b_mFit 129 = .ok (.iload 4, 2) := by decide +kernel
theorem d_mFit_131 : decode b_mFit 131 = .ok (.goto 4, 3) := by decide +kernel
theorem d_mFit_134 : decode b_mFit 134 = .ok (.iload_n 3, 1) := by decide +kernel
theorem d_mFit_135 : decode b_mFit 135 = .ok (.istore_n 3, 1) := by decide +kernel
theorem d_mFit_136 : decode b_mFit 136 = .ok (.iinc 4 1, 3) := by decide +kernel
theorem d_mFit_139 : decode b_mFit 139 = .ok (.goto (-79), 3) := by decide +kernel
theorem d_mFit_142 : decode b_mFit 142 = .ok (.iload_n 3, 1) := by decide +kernel
theorem d_mFit_143 : decode b_mFit 143 = .ok (.ifCond .ge 7, 3) := by decide +kernel
theorem d_mFit_146 : decode b_mFit 146 = .ok (.iload_n 2, 1) := by decide +kernel
theorem d_mFit_147 : decode b_mFit 147 = .ok (.goto 6, 3) := by decide +kernel
theorem d_mFit_150 : decode b_mFit 150 = .ok (.iload_n 3, 1) := by decide +kernel
theorem d_mFit_151 : decode b_mFit 151 = .ok (.iload_n 1, 1) := by decide +kernel
theorem d_mFit_152 : decode b_mFit 152 = .ok (.isub, 1) := by decide +kernel
theorem d_mFit_153 : decode b_mFit 153 = .ok (.ireturn, 1) := by decide +kernel
theorem d_mCount_0 : decode b_mCount 0 = .ok (.aload_n 0, 1) := by decide +kernel
theorem d_mCount_1 : decode b_mCount 1 = .ok (.iconst 0, 1) := by decide +kernel
theorem d_mCount_2 : decode b_mCount 2 = .ok (.putfield 38, 3) := by decide +kernel
theorem d_mCount_5 : decode b_mCount 5 = .ok (.iload_n 1, 1) := by decide +kernel
theorem d_mCount_6 : decode b_mCount 6 = .ok (.ifCond .lt 8, 3) := by decide +kernel
theorem d_mCount_9 : decode b_mCount 9 = .ok (.iload_n 1, 1) := by decide +kernel
theorem d_mCount_10 : decode b_mCount 10 = .ok (.iconst 2, 1) := by decide +kernel
theorem d_mCount_11 : decode b_mCount 11 = .ok (.if_icmp .le 5, 3) := by decide +kernel
theorem d_mCount_14 : decode b_mCount 14 = .ok (.iconst (-1), 1) := by decide +kernel
theorem d_mCount_15 : decode b_mCount 15 = .ok (.ireturn, 1) := by decide +kernel
theorem d_mCount_16 : decode b_mCount 16 = .ok (.iconst 0, 1) := by decide +kernel
theorem d_mCount_17 : decode b_mCount 17 = .ok (.istore_n 2, 1) := by decide +kernel
theorem d_mCount_18 : decode b_mCount 18 = .ok (.iconst 0, 1) := by decide +kernel
theorem d_mCount_19 : decode b_mCount 19 = .ok (.istore_n 3, 1) := by decide +kernel
theorem d_mCount_20 : decode b_mCount 20 = .ok (.iload_n 3, 1) := by decide +kernel
theorem d_mCount_21 : decode b_mCount 21 = .ok (.aload_n 0, 1) := by decide +kernel
theorem d_mCount_22 : decode b_mCount 22 = .ok (.getfield 68, 3) := by decide +kernel
theorem d_mCount_25 : decode b_mCount 25 = .ok (.if_icmp .gt 35, 3) := by decide +kernel
theorem d_mCount_28 : decode b_mCount 28 = .ok (.iload_n 1, 1) := by decide +kernel
theorem d_mCount_29 : decode b_mCount 29 = .ok (.ifCond .le 31, 3) := by decide +kernel
theorem d_mCount_32 : decode b_mCount 32 = .ok (.aload_n 0, 1) := by decide +kernel
theorem d_mCount_33 : decode b_mCount 33 = .ok (.iload_n 3, 1) := by decide +kernel
theorem d_mCount_34 : decode b_mCount 34 = .ok (.invokevirtual 135, 3) := by decide +kernel
theorem d_mCount_37 : decode b_mCount 37 = .ok (.pop, 1) := by decide +kernel
theorem d_mCount_38 : decode b_mCount 38 = .ok (.aload_n 0, 1) := by decide +kernel
theorem d_mCount_39 : decode b_mCount 39 = .ok (.getfield 80, 3) := by decide +kernel
theorem d_mCount_42 : decode b_mCount 42 = .ok (.iload_n 1, 1) := by decide +kernel
theorem d_mCount_43 : decode b_mCount 43 = .ok (.if_icmp .ne 9, 3) := by decide +kernel
theorem d_mCount_46 : decode b_mCount 46 = .ok (.iload_n 2, 1) := by decide +kernel
theorem d_mCount_47 : decode b_mCount 47 = .ok (.iconst 1, 1) := by decide +kernel
theorem d_mCount_48 : decode b_mCount 48 = .ok (.iadd, 1) := by decide +kernel
theorem d_mCount_49 : decode b_mCount 49 = .ok (.goto 4, 3) := by decide +kernel
theorem d_mCount_52 : decode b_mCount 52 = .ok (.iload_n 2, 1) := by decide +kernel
theorem d_mCount_53 : decode b_mCount 53 = .ok (.istore_n 2, 1) := by decide +kernel
theorem d_mCount_54 : decode b_mCount 54 = .ok (.iinc 3 1, 3) := by decide +kernel
theorem d_mCount_57 : decode b_mCount 57 = .ok (.goto (-37), 3) := by decide +kernel
theorem d_mCount_60 : decode b_mCount 60 = .ok (.iload_n 1, 1) := by decide +kernel
theorem d_mCount_61 : decode b_mCount 61 = .ok (.ifCond .ne 10, 3) := by decide +kernel
theorem d_mCount_64 : decode b_mCount 64 = .ok (.aload_n 0, 1) := by decide +kernel
theorem d_mCount_65 : decode b_mCount 65 = .ok (.getfield 68, 3) := by decide +kernel
theorem d_mCount_68 : decode b_mCount 68 = .ok (.goto 4, 3) := by decide +kernel
theorem d_mCount_71 : decode b_mCount 71 = .ok (.iload_n 2, 1) := by decide +kernel
theorem d_mCount_72 : decode b_mCount 72 = .ok (.ireturn, 1) := by decide +kernel
