theorem d_findRule_71 : decode b_findRule 71 = .ok (.getfield 40, 3) := by decide +kernel
theorem d_findRule_74 : decode b_findRule 74 = .ok (.getfield 167, 3) := by decide +kernel
theorem d_findRule_77 : decode b_findRule 77 = .ok (.iload 4, 2) := by decide +kernel
theorem d_findRule_79 : decode b_findRule 79 = .ok (.invokestatic 182, 3) := by decide +kernel
theorem d_findRule_82 : decode b_findRule 82 = .ok (.istore_n 3, 1) := by decide +kernel
theorem d_findRule_83 : decode b_findRule 83 = .ok (.iload_n 3, 1) := by decide +kernel
theorem d_findRule_84 : decode b_findRule 84 = .ok (.ifCond .ne 16, 3) := by decide +kernel
theorem d_findRule_87 : decode b_findRule 87 = .ok (.aload_n 0, 1) := by decide +kernel
theorem d_findRule_88 : decode b_findRule 88 = .ok (.getfield 40, 3) := by decide +kernel
theorem d_findRule_91 : decode b_findRule 91 = .ok (.getfield 167, 3) := by decide +kernel
theorem d_findRule_94 : decode b_findRule 94 = .ok (.iload 4, 2) := by decide +kernel
theorem d_findRule_96 : decode b_findRule 96 = .ok (.invokestatic 185, 3) := by decide +kernel
theorem d_findRule_99 : decode b_findRule 99 = .ok (.istore_n 3, 1) := by decide +kernel
theorem d_findRule_100 : decode b_findRule 100 = .ok (.iload_n 3, 1) := by decide +kernel
theorem d_findRule_101 : decode b_findRule 101 = .ok (.ifCond .ne 18, 3) := by decide +kernel
theorem d_findRule_104 : decode b_findRule 104 = .ok (.aload_n 0, 1) := by decide +kernel
theorem d_findRule_105 : decode b_findRule 105 = .ok (.aload_n 0, 1) := by decide +kernel
theorem d_findRule_106 : decode b_findRule 106 = .ok (.getfield 40, 3) := by decide +kernel
theorem d_findRule_109 : decode b_findRule 109 = .ok (.getfield 167, 3) := by decide +kernel
theorem d_findRule_112 : decode b_findRule 112 = .ok (.iload 4, 2) := by decide +kernel
theorem d_findRule_114 : decode b_findRule 114 = .ok (.iload_n 2, 1) := by decide +kernel
theorem d_findRule_115 : decode b_findRule 115 = .ok (.invokevirtual 188, 3) := by decide +kernel
theorem d_findRule_118 : decode b_findRule 118 = .ok (.istore_n 3, 1) := by decide +kernel
theorem d_findRule_119 : decode b_findRule 119 = .ok (.iload_n 3, 1) := by decide +kernel
theorem d_findRule_120 : decode b_findRule 120 = .ok (.ifCond .ne 9, 3) := by decide +kernel
theorem d_findRule_123 : decode b_findRule 123 = .ok (.sipush 310, 3) := by decide +kernel
theorem d_findRule_126 : decode b_findRule 126 = .ok (.goto 4, 3) := by decide +kernel
theorem d_findRule_129 : decode b_findRule 129 = .ok (.iload_n 3, 1) := by decide +kernel
theorem d_findRule_130 : decode b_findRule 130 = .ok (.ireturn, 1) := by decide +kernel
theorem d_take_0 : decode b_take 0 = .ok (.aload_n 0, 1) := by decide +kernel
theorem d_take_1 : decode b_take 1 = .ok (.getfield 19, 3) := by decide +kernel
theorem d_take_4 : decode b_take 4 = .ok (.iconst 0, 1) := by decide +kernel
theorem d_take_5 : decode b_take 5 = .ok (.iload_n 1, 1) := by decide +kernel
theorem d_take_6 : decode b_take 6 = .ok (.iastore, 1) := by decide +kernel
theorem d_take_7 : decode b_take 7 = .ok (.aload_n 0, 1) := by decide +kernel
theorem d_take_8 : decode b_take 8 = .ok (.getfield 19, 3) := by decide +kernel
theorem d_take_11 : decode b_take 11 = .ok (.iconst 1, 1) := by decide +kernel
theorem d_take_12 : decode b_take 12 = .ok (.iload_n 2, 1) := by decide +kernel
theorem d_take_13 : decode b_take 13 = .ok (.iastore, 1) := by decide +kernel
theorem d_take_14 : decode b_take 14 = .ok (.aload_n 0, 1) := by decide +kernel
theorem d_take_15 : decode b_take 15 = .ok (.getfield 19, 3) := by decide +kernel
theorem d_take_18 : decode b_take 18 = .ok (.iconst 2, 1) := by decide +kernel
theorem d_take_19 : decode b_take 19 = .ok (.iload_n 3, 1) := by decide +kernel
theorem d_take_20 : decode b_take 20 = .ok (.iastore, 1) := by decide +kernel
theorem d_take_21 : decode b_take 21 = .ok (.aload_n 0, 1) := by decide +kernel
theorem d_take_22 : decode b_take 22 = .ok (.getfield 19, 3) := by decide +kernel
theorem d_take_25 : decode b_take 25 = .ok (.iconst 3, 1) := by decide +kernel
theorem d_take_26 : decode b_take 26 = .ok (.iload 4, 2) := by decide +kernel
theorem d_take_28 : decode b_take 28 = .ok (.iastore, 1) := by decide +kernel
theorem d_take_29 : decode b_take 29 = .ok (.aload_n 0, 1) := by decide +kernel
theorem d_take_30 : decode b_take 30 = .ok (.getfield 19, 3) := by decide +kernel
theorem d_take_33 : decode b_take 33 = .ok (.iconst 4, 1) := by decide +kernel
theorem d_take_34 : decode b_take 34 = .ok (.iload 5, 2) := by decide +kernel
theorem d_take_36 : decode b_take 36 = .ok (.iastore, 1) := by decide +kernel
theorem d_take_37 : decode b_take 37 = .ok (.iconst 0, 1) := by decide +kernel
theorem d_take_38 : decode b_take 38 = .ok (.istore 6, 2) := by decide +kernel
theorem d_take_40 : decode b_take 40 = .ok (.iload 6, 2) := by decide +kernel
theorem d_take_42 : decode b_take 42 = .ok (.iconst 5, 1) := by decide +kernel
theorem d_take_43 : decode b_take 43 = .ok (.if_icmp .ge 23, 3) := by decide +kernel
theorem d_take_46 : decode b_take 46 = .ok (.aload_n 0, 1) := by decide +kernel
theorem d_take_47 : decode b_take 47 = .ok (.getfield 19, 3) := by decide +kernel
theorem d_take_50 : decode b_take 50 = .ok (.iload 6, 2) := by decide +kernel
theorem d_take_52 : decode b_take 52 = .ok (.iaload, 1) := by decide +kernel
theorem d_take_53 : decode b_take 53 = .ok (.iconst (-1), 1) := by decide +kernel
theorem d_take_54 : decode b_take 54 = .ok (.if_icmp .ne 6, 3) := by decide +kernel
theorem d_take_57 : decode b_take 57 = .ok (.iload 6, 2) := by decide +kernel
theorem d_take_59 : decode b_take 59 = .ok (.ireturn, 1) := by decide +kernel
theorem d_take_60 : decode b_take 60 = .ok (.iinc 6 1, 3) := by decide +kernel
theorem d_take_63 : decode b_take 63 = .ok (.goto (-23), 3) := by decide +kernel
theorem d_take_66 : decode b_take 66 = .ok (.iconst 5, 1) := by decide +kernel
theorem d_take_67 : decode b_take 67 = .ok (.ireturn, 1) := by decide +kernel
theorem d_areCharacters_0 : decode b_areCharacters 0 = .ok (.iconst 0, 1) := by decide +kernel
theorem d_areCharacters_1 : decode b_areCharacters 1 = .ok (.istore_n 2, 1) := by decide +kernel
theorem d_areCharacters_2 : decode b_areCharacters 2 = .ok (.iload_n 2, 1) := by decide +kernel
theorem d_areCharacters_3 : decode b_areCharacters 3 = .ok (.iload_n 1, 1) := by decide +kernel
theorem d_areCharacters_4 : decode b_areCharacters 4 = .ok (.if_icmp .ge 28, 3) := by decide +kernel
theorem d_areCharacters_7 : decode b_areCharacters 7 = .ok (.iload_n 2, 1) := by decide +kernel
theorem d_areCharacters_8 : decode b_areCharacters 8 = .ok (.iconst 5, 1) := by decide +kernel
theorem d_areCharacters_9 : decode b_areCharacters 9 = .ok (.if_icmp .ge 23, 3) := by decide +kernel
theorem d_areCharacters_12 : decode b_areCharacters 12 = .ok (.aload_n 0, 1) := by decide +kernel
theorem d_areCharacters_13 : decode b_areCharacters 13 = .ok (.getfield 19, 3) := by decide +kernel
theorem d_areCharacters_16 : decode b_areCharacters 16 = .ok (.iload_n 2, 1) := by decide +kernel
theorem d_areCharacters_17 : decode b_areCharacters 17 = .ok (.iaload, 1) := by decide +kernel
theorem d_areCharacters_18 : decode b_areCharacters 18 = .ok (.invokestatic 135, 3) := by decide +kernel
theorem d_areCharacters_21 : decode b_areCharacters 21 = .ok (.ifCond .ne 5, 3) := by decide +kernel
theorem d_areCharacters_24 : decode b_areCharacters 24 = .ok (.iconst 0, 1) := by decide +kernel
theorem d_areCharacters_25 : decode b_areCharacters 25 = .ok (.ireturn, 1) := by decide +kernel
theorem d_areCharacters_26 : decode b_areCharacters 26 = .ok (.iinc 2 1, 3) := by decide +kernel
theorem d_areCharacters_29 : decode b_areCharacters 29 = .ok (.goto (-27), 3) := by decide +kernel
theorem d_areCharacters_32 : decode b_areCharacters 32 = .ok (.iconst 1, 1) := by decide +kernel
theorem d_areCharacters_33 : decode b_areCharacters 33 = .ok (.ireturn, 1) := by decide +kernel
theorem d_putGiven_0 : decode b_putGiven 0 = .ok (.aload_n 0, 1) := by decide +kernel
theorem d_putGiven_1 : decode b_putGiven 1 = .ok (.getfield 44, 3) := by decide +kernel
theorem d_putGiven_4 : decode b_putGiven 4 = .ok (.iload_n 2, 1) := by decide +kernel
theorem d_putGiven_5 : decode b_putGiven 5 = .ok (.isub, 1) := by decide +kernel
theorem d_putGiven_6 : decode b_putGiven 6 = .ok (.istore 4, 2) := by decide +kernel
theorem d_putGiven_8 : decode b_putGiven 8 = .ok (.iload 4, 2) := by decide +kernel
theorem d_putGiven_10 : decode b_putGiven 10 = .ok (.ifCond .le 37, 3) := by decide +kernel
theorem d_putGiven_13 : decode b_putGiven 13 = .ok (.aload_n 0, 1) := by decide +kernel
theorem d_putGiven_14 : decode b_putGiven 14 = .ok (.getfield 9, 3) := by decide +kernel
theorem d_putGiven_17 : decode b_putGiven 17 = .ok (.iload_n 2, 1) := by decide +kernel
theorem d_putGiven_18 : decode b_putGiven 18 = .ok (.aload_n 0, 1) := by decide +kernel
theorem d_putGiven_19 : decode b_putGiven 19 = .ok (.getfield 9, 3) := by decide +kernel
theorem d_putGiven_22 : decode b_putGiven 22 = .ok (.iload_n 1, 1) := by decide +kernel
theorem d_putGiven_23 : decode b_putGiven 23 = .ok (.iload_n 3, 1) := by decide +kernel
theorem d_putGiven_24 : decode b_putGiven 24 = .ok (.iadd, 1) := by decide +kernel
theorem d_putGiven_25 : decode b_putGiven 25 = .ok (.iload 4, 2) := by decide +kernel
theorem d_putGiven_27 : decode b_putGiven 27 = .ok (.invokestatic 138, 3) := by decide +kernel
theorem d_putGiven_30 : decode b_putGiven 30 = .ok (.aload_n 0, 1) := by decide +kernel
theorem d_putGiven_31 : decode b_putGiven 31 = .ok (.getfield 13, 3) := by decide +kernel
theorem d_putGiven_34 : decode b_putGiven 34 = .ok (.iload_n 2, 1) := by decide +kernel
theorem d_putGiven_35 : decode b_putGiven 35 = .ok (.aload_n 0, 1) := by decide +kernel
theorem d_putGiven_36 : decode b_putGiven 36 = .ok (.getfield 13, 3) := by decide +kernel
theorem d_putGiven_39 : decode b_putGiven 39 = .ok (.iload_n 1, 1) := by decide +kernel
theorem d_putGiven_40 : decode b_putGiven 40 = .ok (.iload_n 3, 1) := by decide +kernel
theorem d_putGiven_41 : decode b_putGiven 41 = .ok (.iadd, 1) := by decide +kernel
theorem d_putGiven_42 : decode b_putGiven 42 = .ok (.iload 4, 2) := by decide +kernel
theorem d_putGiven_44 : decode b_putGiven 44 = .ok (.invokestatic 138, 3) := by decide +kernel
theorem d_putGiven_47 : decode b_putGiven 47 = .ok (.iconst 0, 1) := by decide +kernel
theorem d_putGiven_48 : decode b_putGiven 48 = .ok (.istore 5, 2) := by decide +kernel
theorem d_putGiven_50 : decode b_putGiven 50 = .ok (.iload 5, 2) := by decide +kernel
theorem d_putGiven_52 : decode b_putGiven 52 = .ok (.iload_n 3, 1) := by decide +kernel
theorem d_putGiven_53 : decode b_putGiven 53 = .ok (.if_icmp .ge 56, 3) := by decide +kernel
theorem d_putGiven_56 : decode b_putGiven 56 = .ok (.iload 5, 2) := by decide +kernel
theorem d_putGiven_58 : decode b_putGiven 58 = .ok (.iconst 5, 1) := by decide +kernel
theorem d_putGiven_59 : decode b_putGiven 59 = .ok (.if_icmp .ge 50, 3) := by decide +kernel
theorem d_putGiven_62 : decode b_putGiven 62 = .ok (.aload_n 0, 1) := by decide +kernel
theorem d_putGiven_63 : decode b_putGiven 63 = .ok (.getfield 9, 3) := by decide +kernel
theorem d_putGiven_66 : decode b_putGiven 66 = .ok (.iload_n 1, 1) := by decide +kernel
theorem d_putGiven_67 : decode b_putGiven 67 = .ok (.iload 5, 2) := by decide +kernel
theorem d_putGiven_69 : decode b_putGiven 69 = .ok (.iadd, 1) := by decide +kernel
theorem d_putGiven_70 : decode b_putGiven 70 = .ok (.aload_n 0, 1) := by decide +kernel
theorem d_putGiven_71 : decode b_putGiven 71 = .ok (.getfield 19, 3) := by decide +kernel
theorem d_putGiven_74 : decode b_putGiven 74 = .ok (.iload 5, 2) := by decide +kernel
theorem d_putGiven_76 : decode b_putGiven 76 = .ok (.iaload, 1) := by decide +kernel
theorem d_putGiven_77 : decode b_putGiven 77 = .ok (.iastore, 1) := by decide +kernel
theorem d_putGiven_78 : decode b_putGiven 78 = .ok (.aload_n 0, 1) := by decide +kernel
theorem d_putGiven_79 : decode b_putGiven 79 = .ok (.getfield 13, 3) := by decide +kernel
theorem d_putGiven_82 : decode b_putGiven 82 = .ok (.iload_n 1, 1) := by decide +kernel
theorem d_putGiven_83 : decode b_putGiven 83 = .ok (.iload 5, 2) := by decide +kernel
theorem d_putGiven_85 : decode b_putGiven 85 = .ok (.iadd, 1) := by decide +kernel
theorem d_putGiven_86 : decode b_putGiven 86 = .ok (.aload_n 0, 1) := by decide +kernel
theorem d_putGiven_87 : decode b_putGiven 87 = .ok (.getfield 27, 3) := by decide +kernel
theorem d_putGiven_90 : decode b_putGiven 90 = .ok (.aload_n 0, 1) := by decide +kernel
theorem d_putGiven_91 : decode b_putGiven 91 = .ok (.getfield 19, 3) := by decide +kernel
theorem d_putGiven_94 : decode b_putGiven 94 = .ok (.iload 5, 2) := by decide +kernel
theorem d_putGiven_96 : decode b_putGiven 96 = .ok (.iaload, 1) := by decide +kernel
theorem d_putGiven_97 : decode b_putGiven 97 = .ok (.bipush 40, 2) := by decide +kernel
theorem d_putGiven_99 : decode b_putGiven 99 = .ok (.invokevirtual 144, 3) := by decide +kernel
theorem d_putGiven_102 : decode b_putGiven 102 = .ok (.iastore, 1) := by decide +kernel
theorem d_putGiven_103 : decode b_putGiven 103 = .ok (.iinc 5 1, 3) := by decide +kernel
theorem d_putGiven_106 : decode b_putGiven 106 = .ok (.goto (-56), 3) := by decide +kernel
theorem d_putGiven_109 : decode b_putGiven 109 = .ok (.aload_n 0, 1) := by decide +kernel
theorem d_putGiven_110 : decode b_putGiven 110 = .ok (.iload_n 1, 1) := by decide +kernel
theorem d_putGiven_111 : decode b_putGiven 111 = .ok (.iload_n 3, 1) := by decide +kernel
theorem d_putGiven_112 : decode b_putGiven 112 = .ok (.iadd, 1) := by decide +kernel
theorem d_putGiven_113 : decode b_putGiven 113 = .ok (.iload 4, 2) := by decide +kernel
theorem d_putGiven_115 : decode b_putGiven 115 = .ok (.iadd, 1) := by decide +kernel
theorem d_putGiven_116 : decode b_putGiven 116 = .ok (.putfield 44, 3) := by decide +kernel
theorem d_putGiven_119 : decode b_putGiven 119 = .ok (.iload_n 1, 1) := by decide +kernel
theorem d_putGiven_120 : decode b_putGiven 120 = .ok (.aload_n 0, 1) := by decide +kernel
theorem d_putGiven_121 : decode b_putGiven 121 = .ok (.getfield 52, 3) := by decide +kernel
theorem d_putGiven_124 : decode b_putGiven 124 = .ok (.if_icmp .ge 7, 3) := by decide +kernel
theorem d_putGiven_127 : decode b_putGiven 127 = .ok (.aload_n 0, 1) := by decide +kernel
theorem d_putGiven_128 : decode b_putGiven 128 = .ok (.invokevirtual 79, 3) := by decide +kernel
theorem d_putGiven_131 : decode b_putGiven 131 = .ok (.return_, 1) := by decide +kernel
theorem d_ruleAt_0 : decode b_ruleAt 0 = .ok (.iload_n 1, 1) := by decide +kernel
theorem d_ruleAt_1 : decode b_ruleAt 1 = .ok (.ifCond .gt 6, 3) := by decide +kernel
theorem d_ruleAt_4 : decode b_ruleAt 4 = .ok (.bipush 20, 2) := by decide +kernel
theorem d_ruleAt_6 : decode b_ruleAt 6 = .ok (.ireturn, 1) := by decide +kernel
theorem d_ruleAt_7 : decode b_ruleAt 7 = .ok (.iload_n 1, 1) := by decide +kernel
theorem d_ruleAt_8 : decode b_ruleAt 8 = .ok (.aload_n 0, 1) := by decide +kernel
theorem d_ruleAt_9 : decode b_ruleAt 9 = .ok (.getfield 44, 3) := by decide +kernel
theorem d_ruleAt_12 : decode b_ruleAt 12 = .ok (.if_icmp .lt 6, 3) := by decide +kernel
theorem d_ruleAt_15 : decode b_ruleAt 15 = .ok (.bipush 30, 2) := by decide +kernel
theorem d_ruleAt_17 : decode b_ruleAt 17 = .ok (.ireturn, 1) := by decide +kernel
theorem d_ruleAt_18 : decode b_ruleAt 18 = .ok (.aload_n 0, 1) := by decide +kernel
theorem d_ruleAt_19 : decode b_ruleAt 19 = .ok (.getfield 52, 3) := by decide +kernel
theorem d_ruleAt_22 : decode b_ruleAt 22 = .ok (.istore_n 2, 1) := by decide +kernel
theorem d_ruleAt_23 : decode b_ruleAt 23 = .ok (.iload_n 2, 1) := by decide +kernel
theorem d_ruleAt_24 : decode b_ruleAt 24 = .ok (.iload_n 1, 1) := by decide +kernel
theorem d_ruleAt_25 : decode b_ruleAt 25 = .ok (.if_icmp .gt 53, 3) := by decide +kernel
theorem d_ruleAt_28 : decode b_ruleAt 28 = .ok (.aload_n 0, 1) := by decide +kernel
theorem d_ruleAt_29 : decode b_ruleAt 29 = .ok (.iload_n 2, 1) := by decide +kernel
theorem d_ruleAt_30 : decode b_ruleAt 30 = .ok (.invokevirtual 114, 3) := by decide +kernel
theorem d_ruleAt_33 : decode b_ruleAt 33 = .ok (.istore_n 3, 1) := by decide +kernel
theorem d_ruleAt_34 : decode b_ruleAt 34 = .ok (.aload_n 0, 1) := by decide +kernel
theorem d_ruleAt_35 : decode b_ruleAt 35 = .ok (.getfield 16, 3) := by decide +kernel
theorem d_ruleAt_38 : decode b_ruleAt 38 = .ok (.iload_n 2, 1) := by decide +kernel
theorem d_ruleAt_39 : decode b_ruleAt 39 = .ok (.aload_n 0, 1) := by decide +kernel
theorem d_ruleAt_40 : decode b_ruleAt 40 = .ok (.iload_n 3, 1) := by decide +kernel
theorem d_ruleAt_41 : decode b_ruleAt 41 = .ok (.aload_n 0, 1) := by decide +kernel
theorem d_ruleAt_42 : decode b_ruleAt 42 = .ok (.getfield 9, 3) := by decide +kernel
theorem d_ruleAt_45 : decode b_ruleAt 45 = .ok (.iload_n 2, 1) := by decide +kernel
theorem d_ruleAt_46 : decode b_ruleAt 46 = .ok (.iaload, 1) := by decide +kernel
theorem d_ruleAt_47 : decode b_ruleAt 47 = .ok (.invokevirtual 154, 3) := by decide +kernel
theorem d_ruleAt_50 : decode b_ruleAt 50 = .ok (.iastore, 1) := by decide +kernel
theorem d_ruleAt_51 : decode b_ruleAt 51 = .ok (.aload_n 0, 1) := by decide +kernel
theorem d_ruleAt_52 : decode b_ruleAt 52 = .ok (.getfield 40, 3) := by decide +kernel
theorem d_ruleAt_55 : decode b_ruleAt 55 = .ok (.iload_n 3, 1) := by decide +kernel
theorem d_ruleAt_56 : decode b_ruleAt 56 = .ok (.aload_n 0, 1) := by decide +kernel
theorem d_ruleAt_57 : decode b_ruleAt 57 = .ok (.getfield 9, 3) := by decide +kernel
theorem d_ruleAt_60 : decode b_ruleAt 60 = .ok (.iload_n 2, 1) := by decide +kernel
theorem d_ruleAt_61 : decode b_ruleAt 61 = .ok (.iaload, 1) := by decide +kernel
theorem d_ruleAt_62 : decode b_ruleAt 62 = .ok (.invokevirtual 157, 3) := by decide +kernel
theorem d_ruleAt_65 : decode b_ruleAt 65 = .ok (.aload_n 0, 1) := by decide +kernel
theorem d_ruleAt_66 : decode b_ruleAt 66 = .ok (.iload_n 2, 1) := by decide +kernel
theorem d_ruleAt_67 : decode b_ruleAt 67 = .ok (.iconst 1, 1) := by decide +kernel
theorem d_ruleAt_68 : decode b_ruleAt 68 = .ok (.iadd, 1) := by decide +kernel
theorem d_ruleAt_69 : decode b_ruleAt 69 = .ok (.putfield 52, 3) := by decide +kernel
theorem d_ruleAt_72 : decode b_ruleAt 72 = .ok (.iinc 2 1, 3) := by decide +kernel
theorem d_ruleAt_75 : decode b_ruleAt 75 = .ok (.goto (-52), 3) := by decide +kernel
theorem d_ruleAt_78 : decode b_ruleAt 78 = .ok (.aload_n 0, 1) := by decide +kernel
theorem d_ruleAt_79 : decode b_ruleAt 79 = .ok (.getfield 16, 3) := by decide +kernel
theorem d_ruleAt_82 : decode b_ruleAt 82 = .ok (.iload_n 1, 1) := by decide +kernel
theorem d_ruleAt_83 : decode b_ruleAt 83 = .ok (.iaload, 1) := by decide +kernel
theorem d_ruleAt_84 : decode b_ruleAt 84 = .ok (.ireturn, 1) := by decide +kernel
theorem d_breaksAt_0 : decode b_breaksAt 0 = .ok (.aload_n 0, 1) := by decide +kernel
theorem d_breaksAt_1 : decode b_breaksAt 1 = .ok (.iload_n 1, 1) := by decide +kernel
theorem d_breaksAt_2 : decode b_breaksAt 2 = .ok (.invokevirtual 123, 3) := by decide +kernel
theorem d_breaksAt_5 : decode b_breaksAt 5 = .ok (.lookupswitch 85 #[(30, 67), (40, 67), (50, 69), (80, 83), (180, 83), (200, 83), (310, 83)], 67) := by decide +kernel
theorem d_breaksAt_72 : decode b_breaksAt 72 = .ok (.iconst 2, 1) := by decide +kernel
theorem d_breaksAt_73 : decode b_breaksAt 73 = .ok (.ireturn, 1) := by decide +kernel
theorem d_breaksAt_74 : decode b_breaksAt 74 = .ok (.aload_n 0, 1) := by decide +kernel
theorem d_breaksAt_75 : decode b_breaksAt 75 = .ok (.iload_n 1, 1) := by decide +kernel
theorem d_breaksAt_76 : decode b_breaksAt 76 = .ok (.invokevirtual 151, 3) := by decide +kernel
theorem d_breaksAt_79 : decode b_breaksAt 79 = .ok (.ifCond .eq 7, 3) := by decide +kernel
theorem d_breaksAt_82 : decode b_breaksAt 82 = .ok (.iconst 0, 1) := by decide +kernel
theorem d_breaksAt_83 : decode b_breaksAt 83 = .ok (.goto 4, 3) := by decide +kernel
theorem d_breaksAt_86 : decode b_breaksAt 86 = .ok (.iconst 2, 1) := by decide +kernel
theorem d_breaksAt_87 : decode b_breaksAt 87 = .ok (.ireturn, 1) := by decide +kernel
theorem d_breaksAt_88 : decode b_breaksAt 88 = .ok (.iconst 1, 1) := by decide +kernel
theorem d_breaksAt_89 : decode b_breaksAt 89 = .ok (.ireturn, 1) := by decide +kernel
theorem d_breaksAt_90 : decode b_breaksAt 90 = .ok (.iconst 0, 1) := by decide +kernel
theorem d_breaksAt_91 : decode b_breaksAt 91 = .ok (.ireturn, 1) := by decide +kernel
theorem d_loose_0 : decode b_loose 0 = .ok (.aload_n 0, 1) := by decide +kernel
theorem d_loose_1 : decode b_loose 1 = .ok (.getfield 48, 3) := by decide +kernel
theorem d_loose_4 : decode b_loose 4 = .ok (.istore_n 2, 1) := by decide +kernel
theorem d_loose_5 : decode b_loose 5 = .ok (.aload_n 0, 1) := by decide +kernel
theorem d_loose_6 : decode b_loose 6 = .ok (.iload_n 1, 1) := by decide +kernel
theorem d_loose_7 : decode b_loose 7 = .ok (.putfield 48, 3) := by decide +kernel
theorem d_loose_10 : decode b_loose 10 = .ok (.iload_n 2, 1) := by decide +kernel
theorem d_loose_11 : decode b_loose 11 = .ok (.iload_n 1, 1) := by decide +kernel
theorem d_loose_12 : decode b_loose 12 = .ok (.if_icmp .eq 7, 3) := by decide +kernel
theorem d_loose_15 : decode b_loose 15 = .ok (.aload_n 0, 1) := by decide +kernel
theorem d_loose_16 : decode b_loose 16 = .ok (.invokevirtual 79, 3) := by decide +kernel
theorem d_loose_19 : decode b_loose 19 = .ok (.iload_n 2, 1) := by decide +kernel
theorem d_loose_20 : decode b_loose 20 = .ok (.ireturn, 1) := by decide +kernel
theorem d_clear_0 : decode b_clear 0 = .ok (.aload_n 0, 1) := by decide +kernel
theorem d_clear_1 : decode b_clear 1 = .ok (.getfield 44, 3) := by decide +kernel
theorem d_clear_4 : decode b_clear 4 = .ok (.istore_n 1, 1) := by decide +kernel
theorem d_clear_5 : decode b_clear 5 = .ok (.aload_n 0, 1) := by decide +kernel
theorem d_clear_6 : decode b_clear 6 = .ok (.iconst 0, 1) := by decide +kernel
theorem d_clear_7 : decode b_clear 7 = .ok (.putfield 44, 3) := by decide +kernel
theorem d_clear_10 : decode b_clear 10 = .ok (.aload_n 0, 1) := by decide +kernel
theorem d_clear_11 : decode b_clear 11 = .ok (.invokevirtual 79, 3) := by decide +kernel
theorem d_clear_14 : decode b_clear 14 = .ok (.iload_n 1, 1) := by decide +kernel
theorem d_clear_15 : decode b_clear 15 = .ok (.ireturn, 1) := by decide +kernel
theorem d_at_0 : decode b_at 0 = .ok (.aload_n 0, 1) := by decide +kernel
theorem d_at_1 : decode b_at 1 = .ok (.iload_n 1, 1) := by decide +kernel
theorem d_at_2 : decode b_at 2 = .ok (.invokevirtual 109, 3) := by decide +kernel
theorem d_at_5 : decode b_at 5 = .ok (.ifCond .ne 13, 3) := by decide +kernel
theorem d_at_8 : decode b_at 8 = .ok (.new 104, 3) := by decide +kernel
theorem d_at_11 : decode b_at 11 = .ok (.dup, 1) := by decide +kernel
theorem d_at_12 : decode b_at 12 = .ok (.ldc 112, 2) := by decide +kernel
theorem d_at_14 : decode b_at 14 = .ok (.invokespecial 108, 3) := by decide +kernel
theorem d_at_17 : decode b_at 17 = .ok (.athrow, 1) := by decide +kernel
theorem d_at_18 : decode b_at 18 = .ok (.aload_n 0, 1) := by decide +kernel
theorem d_at_19 : decode b_at 19 = .ok (.getfield 9, 3) := by decide +kernel
theorem d_at_22 : decode b_at 22 = .ok (.iload_n 1, 1) := by decide +kernel
theorem d_at_23 : decode b_at 23 = .ok (.iaload, 1) := by decide +kernel
theorem d_at_24 : decode b_at 24 = .ok (.ireturn, 1) := by decide +kernel
theorem d_kind_0 : decode b_kind 0 = .ok (.aload_n 0, 1) := by decide +kernel
theorem d_kind_1 : decode b_kind 1 = .ok (.iload_n 1, 1) := by decide +kernel
theorem d_kind_2 : decode b_kind 2 = .ok (.invokevirtual 109, 3) := by decide +kernel
theorem d_kind_5 : decode b_kind 5 = .ok (.ifCond .ne 13, 3) := by decide +kernel
theorem d_kind_8 : decode b_kind 8 = .ok (.new 104, 3) := by decide +kernel
theorem d_kind_11 : decode b_kind 11 = .ok (.dup, 1) := by decide +kernel
theorem d_kind_12 : decode b_kind 12 = .ok (.ldc 112, 2) := by decide +kernel
theorem d_kind_14 : decode b_kind 14 = .ok (.invokespecial 108, 3) := by decide +kernel
theorem d_kind_17 : decode b_kind 17 = .ok (.athrow, 1) := by decide +kernel
theorem d_kind_18 : decode b_kind 18 = .ok (.aload_n 0, 1) := by decide +kernel
theorem d_kind_19 : decode b_kind 19 = .ok (.iload_n 1, 1) := by decide +kernel
theorem d_kind_20 : decode b_kind 20 = .ok (.invokevirtual 114, 3) := by decide +kernel
theorem d_kind_23 : decode b_kind 23 = .ok (.ireturn, 1) := by decide +kernel
theorem d_breaks_0 : decode b_breaks 0 = .ok (.aload_n 0, 1) := by decide +kernel
theorem d_breaks_1 : decode b_breaks 1 = .ok (.iload_n 1, 1) := by decide +kernel
theorem d_breaks_2 : decode b_breaks 2 = .ok (.invokevirtual 101, 3) := by decide +kernel
theorem d_breaks_5 : decode b_breaks 5 = .ok (.ifCond .ne 13, 3) := by decide +kernel
theorem d_breaks_8 : decode b_breaks 8 = .ok (.new 104, 3) := by decide +kernel
theorem d_breaks_11 : decode b_breaks 11 = .ok (.dup, 1) := by decide +kernel
theorem d_breaks_12 : decode b_breaks 12 = .ok (.ldc 118, 2) := by decide +kernel
theorem d_breaks_14 : decode b_breaks 14 = .ok (.invokespecial 108, 3) := by decide +kernel
theorem d_breaks_17 : decode b_breaks 17 = .ok (.athrow, 1) := by decide +kernel
theorem d_breaks_18 : decode b_breaks 18 = .ok (.aload_n 0, 1) := by decide +kernel
theorem d_breaks_19 : decode b_breaks 19 = .ok (.iload_n 1, 1) := by decide +kernel
theorem d_breaks_20 : decode b_breaks 20 = .ok (.invokevirtual 120, 3) := by decide +kernel
theorem d_breaks_23 : decode b_breaks 23 = .ok (.ireturn, 1) := by decide +kernel
theorem d_rule_0 : decode b_rule 0 = .ok (.aload_n 0, 1) := by decide +kernel
theorem d_rule_1 : decode b_rule 1 = .ok (.iload_n 1, 1) := by decide +kernel
theorem d_rule_2 : decode b_rule 2 = .ok (.invokevirtual 101, 3) := by decide +kernel
theorem d_rule_5 : decode b_rule 5 = .ok (.ifCond .ne 13, 3) := by decide +kernel
theorem d_rule_8 : decode b_rule 8 = .ok (.new 104, 3) := by decide +kernel
theorem d_rule_11 : decode b_rule 11 = .ok (.dup, 1) := by decide +kernel
theorem d_rule_12 : decode b_rule 12 = .ok (.ldc 118, 2) := by decide +kernel
theorem d_rule_14 : decode b_rule 14 = .ok (.invokespecial 108, 3) := by decide +kernel
theorem d_rule_17 : decode b_rule 17 = .ok (.athrow, 1) := by decide +kernel
theorem d_rule_18 : decode b_rule 18 = .ok (.aload_n 0, 1) := by decide +kernel
theorem d_rule_19 : decode b_rule 19 = .ok (.iload_n 1, 1) := by decide +kernel
theorem d_rule_20 : decode b_rule 20 = .ok (.invokevirtual 123, 3) := by decide +kernel
theorem d_rule_23 : decode b_rule 23 = .ok (.ireturn, 1) := by decide +kernel
theorem d_count_0 : decode b_count 0 = .ok (.iload_n 1, 1) := by decide +kernel
theorem d_count_1 : decode b_count 1 = .ok (.ifCond .ne 8, 3) := by decide +kernel
theorem d_count_4 : decode b_count 4 = .ok (.aload_n 0, 1) := by decide +kernel
theorem d_count_5 : decode b_count 5 = .ok (.getfield 44, 3) := by decide +kernel
theorem d_count_8 : decode b_count 8 = .ok (.ireturn, 1) := by decide +kernel
theorem d_count_9 : decode b_count 9 = .ok (.iload_n 1, 1) := by decide +kernel
theorem d_count_10 : decode b_count 10 = .ok (.iconst 1, 1) := by decide +kernel
theorem d_count_11 : decode b_count 11 = .ok (.if_icmp .eq 10, 3) := by decide +kernel
theorem d_count_14 : decode b_count 14 = .ok (.iload_n 1, 1) := by decide +kernel
theorem d_count_15 : decode b_count 15 = .ok (.iconst 2, 1) := by decide +kernel
theorem d_count_16 : decode b_count 16 = .ok (.if_icmp .eq 5, 3) := by decide +kernel
theorem d_count_19 : decode b_count 19 = .ok (.iconst (-1), 1) := by decide +kernel
theorem d_count_20 : decode b_count 20 = .ok (.ireturn, 1) := by decide +kernel
theorem d_count_21 : decode b_count 21 = .ok (.iconst 0, 1) := by decide +kernel
theorem d_count_22 : decode b_count 22 = .ok (.istore_n 2, 1) := by decide +kernel
theorem d_count_23 : decode b_count 23 = .ok (.iconst 0, 1) := by decide +kernel
theorem d_count_24 : decode b_count 24 = .ok (.istore_n 3, 1) := by decide +kernel
theorem d_count_25 : decode b_count 25 = .ok (.iload_n 3, 1) := by decide +kernel
theorem d_count_26 : decode b_count 26 = .ok (.aload_n 0, 1) := by decide +kernel
theorem d_count_27 : decode b_count 27 = .ok (.getfield 44, 3) := by decide +kernel
theorem d_count_30 : decode b_count 30 = .ok (.if_icmp .gt 21, 3) := by decide +kernel
theorem d_count_33 : decode b_count 33 = .ok (.aload_n 0, 1) := by decide +kernel
theorem d_count_34 : decode b_count 34 = .ok (.iload_n 3, 1) := by decide +kernel
theorem d_count_35 : decode b_count 35 = .ok (.invokevirtual 120, 3) := by decide +kernel
theorem d_count_38 : decode b_count 38 = .ok (.iload_n 1, 1) := by decide +kernel
theorem d_count_39 : decode b_count 39 = .ok (.if_icmp .ne 6, 3) := by decide +kernel
theorem d_count_42 : decode b_count 42 = .ok (.iinc 2 1, 3) := by decide +kernel
theorem d_count_45 : decode b_count 45 = .ok (.iinc 3 1, 3) := by decide +kernel
theorem d_count_48 : decode b_count 48 = .ok (.goto (-23), 3) := by decide +kernel
theorem d_count_51 : decode b_count 51 = .ok (.iload_n 2, 1) := by decide +kernel
theorem d_count_52 : decode b_count 52 = .ok (.ireturn, 1) := by decide +kernel
theorem d_next_0 : decode b_next 0 = .ok (.aload_n 0, 1) := by decide +kernel
theorem d_next_1 : decode b_next 1 = .ok (.iload_n 1, 1) := by decide +kernel
theorem d_next_2 : decode b_next 2 = .ok (.invokevirtual 101, 3) := by decide +kernel
theorem d_next_5 : decode b_next 5 = .ok (.ifCond .ne 13, 3) := by decide +kernel
theorem d_next_8 : decode b_next 8 = .ok (.new 104, 3) := by decide +kernel
theorem d_next_11 : decode b_next 11 = .ok (.dup, 1) := by decide +kernel
theorem d_next_12 : decode b_next 12 = .ok (.ldc 118, 2) := by decide +kernel
theorem d_next_14 : decode b_next 14 = .ok (.invokespecial 108, 3) := by decide +kernel
