theorem d_findRule_71 : decode b_findRule 71 = .ok (.getfield 40, 3) := by decide +kernel
theorem d_findRule_74 : decode b_findRule 74 = .ok (.getfield 167, 3) := by decide +kernel
theorem d_findRule_77 : decode b_findRule 77 = .ok (.iload 4, 2) := by decide +kernel
theorem d_findRule_79 : decode b_findRule 79 = .ok (.invokestatic 182, 3) := by decide +kernel
theorem d_findRule_82 : decode b_findRule 82 = .ok (.istore_n 3, 1) := by decide +kernel
theorem d_findRule_83 : decode b_findRule 83 = .ok (.iload_n 3, 1) := by decide +kernel
theorem d_findRule_84 : decode b_findRule 84 = .ok (.ifCond .ne 16, 3) := by decide +kernel
theorem d_findRule_87 : decode b_findRule 87 = .ok (.aload_n 0, 1) := by decide +kernel
theorem d_findRule_88 : decode b_findRule 88 = .ok (.getfield 40, 3) := by decide +kernel
theorem d_findRule_91 : decode b_findRule 91 = .ok (.getfield 167, 3) := by decide +kernel
theorem d_findRule_94 : decode b_findRule 94 = .ok (.iload 4, 2) := by decide +kernel
theorem d_findRule_96 : decode b_findRule 96 = .ok (.invokestatic 185, 3) := by decide +kernel
theorem d_findRule_99 : decode b_findRule 99 = .ok (.istore_n 3, 1) := by decide +kernel
theorem d_findRule_100 : decode b_findRule 100 = .ok (.iload_n 3, 1) := by decide +kernel
theorem d_findRule_101 : decode b_findRule 101 = .ok (.ifCond .ne 18, 3) := by decide +kernel
theorem d_findRule_104 : decode b_findRule 104 = .ok (.aload_n 0, 1) := by decide +kernel
theorem d_findRule_105 : decode b_findRule 105 = .ok (.aload_n 0, 1) := by decide +kernel
theorem d_findRule_106 : decode b_findRule 106 = .ok (.getfield 40, 3) := by decide +kernel
theorem d_findRule_109 : decode b_findRule 109 = .ok (.getfield 167, 3) := by decide +kernel
theorem d_findRule_112 : decode b_findRule 112 = .ok (.iload 4, 2) := by decide +kernel
theorem d_findRule_114 : decode b_findRule 114 = .ok (.iload_n 2, 1) := by decide +kernel
theorem d_findRule_115 : decode b_findRule 115 = .ok (.invokevirtual 188, 3) := by decide +kernel
theorem d_findRule_118 : decode b_findRule 118 = .ok (.istore_n 3, 1) := by decide +kernel
theorem d_findRule_119 : decode b_findRule 119 = .ok (.iload_n 3, 1) := by decide +kernel
theorem d_findRule_120 : decode b_findRule 120 = .ok (.ifCond .ne 9, 3) := by decide +kernel
theorem d_findRule_123 : decode b_findRule 123 = .ok (.sipush 310, 3) := by decide +kernel
theorem d_findRule_126 : decode b_findRule 126 = .ok (.goto 4, 3) := by decide +kernel
theorem d_findRule_129 : decode b_findRule 129 = .ok (.iload_n 3, 1) := by decide +kernel
theorem d_findRule_130 : decode b_findRule 130 = .ok (.ireturn, 1) := by decide +kernel
