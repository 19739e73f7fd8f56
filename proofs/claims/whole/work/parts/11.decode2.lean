theorem d_findRule_71 : decode b_findRule 71 = .ok (.getfield 40, 3) := by decide +kernel
theorem d_findRule_74 : decode b_findRule 74 = .ok (.getfield 167, 3) := by decide +kernel
theorem d_findRule_77 : decode b_findRule 77 = .ok (.iload 4, 2) := by decide +kernel
theorem d_findRule_79 : decode b_findRule 79 = .ok (.invokestatic 182, 3) := by decide +kernel
theorem d_findRule_82 : decode b_findRule 82 = .ok (.istore_n 3, 1) := by decide +kernel
theorem d_findRule_83 : decode b_findRule 83 = .ok (.iload_n 3, 1) := by decide +kernel
theorem d_findRule_84 : decode b_findRule 84 = .ok (.ifCond .ne 16, 3) := by decide +kernel
theorem d_findRule_87 : decode b_findRule 87 = .ok (.aload_n 0, 1) := by decide +kernel
theorem d_findRule_88 : decode b_findRule 88 = .ok (.getfield 40, 3) := by decide +kernel
theorem d_findRule_91 : decode b_findRule 91 = .ok (.getfield 167, 3) := by decide +kernel
theorem d_findRule_94 : decode b_findRule 94 = .ok (.iload 4, 2) := by decide +kernel
theorem d_findRule_96 : decode b_findRule 96 = .ok (.invokestatic 185, 3) := by decide +kernel
theorem d_findRule_99 : decode b_findRule 99 = .ok (.istore_n 3, 1) := by decide +kernel
theorem d_findRule_100 : decode b_findRule 100 = .ok (.iload_n 3, 1) := by decide +kernel
theorem d_findRule_101 : decode b_findRule 101 = .ok (.ifCond .ne 18, 3) := by decide +kernel
theorem d_findRule_104 : decode b_findRule 104 = .ok (.aload_n 0, 1) := by decide +kernel
theorem d_findRule_105 : decode b_findRule 105 = .ok (.aload_n 0, 1) := by decide +kernel
theorem d_findRule_106 : decode b_findRule 106 = .ok (.getfield 40, 3) := by decide +kernel
theorem d_findRule_109 : decode b_findRule 109 = .ok (.getfield 167, 3) := by decide +kernel
theorem d_findRule_112 : decode b_findRule 112 = .ok (.iload 4, 2) := by decide +kernel
theorem d_findRule_114 : decode b_findRule 114 = .ok (.iload_n 2, 1) := by decide +kernel
theorem d_findRule_115 : decode b_findRule 115 = .ok (.invokevirtual 188, 3) := by decide +kernel
theorem d_findRule_118 : decode b_findRule 118 = .ok (.istore_n 3, 1) := by decide +kernel
theorem d_findRule_119 : decode b_findRule 119 = .ok (.iload_n 3, 1) := by decide +kernel
theorem d_findRule_120 : decode b_findRule 120 = .ok (.ifCond .ne 9, 3) := by decide +kernel
theorem d_findRule_123 : decode b_findRule 123 = .ok (.sipush 310, 3) := by decide +kernel
theorem d_findRule_126 : decode b_findRule 126 = .ok (.goto 4, 3) := by decide +kernel
theorem d_findRule_129 : decode b_findRule 129 = .ok (.iload_n 3, 1) := by decide +kernel
theorem d_findRule_130 : decode b_findRule 130 = .ok (.ireturn, 1) := by decide +kernel
theorem d_take_0 : decode b_take 0 = .ok (.aload_n 0, 1) := by decide +kernel
theorem d_take_1 : decode b_take 1 = .ok (.getfield 19, 3) := by decide +kernel
theorem d_take_4 : decode b_take 4 = .ok (.iconst 0, 1) := by decide +kernel
theorem d_take_5 : decode b_take 5 = .ok (.iload_n 1, 1) := by decide +kernel
theorem d_take_6 : decode b_take 6 = .ok (.iastore, 1) := by decide +kernel
theorem d_take_7 : decode b_take 7 = .ok (.aload_n 0, 1) := by decide +kernel
theorem d_take_8 : decode b_take 8 = .ok (.getfield 19, 3) := by decide +kernel
theorem d_take_11 : decode b_take 11 = .ok (.iconst 1, 1) := by decide +kernel
theorem d_take_12 : decode b_take 12 = .ok (.iload_n 2, 1) := by decide +kernel
theorem d_take_13 : decode b_take 13 = .ok (.iastore, 1) := by decide +kernel
theorem d_take_14 : decode b_take 14 = .ok (.aload_n 0, 1) := by decide +kernel
theorem d_take_15 : decode b_take 15 = .ok (.getfield 19, 3) := by decide +kernel
theorem d_take_18 : decode b_take 18 = .ok (.iconst 2, 1) := by decide +kernel
theorem d_take_19 : decode b_take 19 = .ok (.iload_n 3, 1) := by decide +kernel
theorem d_take_20 : decode b_take 20 = .ok (.iastore, 1) := by decide +kernel
theorem d_take_21 : decode b_take 21 = .ok (.aload_n 0, 1) := by decide +kernel
theorem d_take_22 : decode b_take 22 = .ok (.getfield 19, 3) := by decide +kernel
theorem d_take_25 : decode b_take 25 = .ok (.iconst 3, 1) := by decide +kernel
theorem d_take_26 : decode b_take 26 = .ok (.iload 4, 2) := by decide +kernel
theorem d_take_28 : decode b_take 28 = .ok (.iastore, 1) := by decide +kernel
theorem d_take_29 : decode b_take 29 = .ok (.aload_n 0, 1) := by decide +kernel
theorem d_take_30 : decode b_take 30 = .ok (.getfield 19, 3) := by decide +kernel
theorem d_take_33 : decode b_take 33 = .ok (.iconst 4, 1) := by decide +kernel
theorem d_take_34 : decode b_take 34 = .ok (.iload 5, 2) := by decide +kernel
theorem d_take_36 : decode b_take 36 = .ok (.iastore, 1) := by decide +kernel
theorem d_take_37 : decode b_take 37 = .ok (.iconst 0, 1) := by decide +kernel
theorem d_take_38 : decode b_take 38 = .ok (.istore 6, 2) := by decide +kernel
theorem d_take_40 : decode b_take 40 = .ok (.iload 6, 2) := by decide +kernel
theorem d_take_42 : decode b_take 42 = .ok (.iconst 5, 1) := by decide +kernel
theorem d_take_43 : decode b_take 43 = .ok (.if_icmp .ge 23, 3) := by decide +kernel
theorem d_take_46 : decode b_take 46 = .ok (.aload_n 0, 1) := by decide +kernel
theorem d_take_47 : decode b_take 47 = .ok (.getfield 19, 3) := by decide +kernel
theorem d_take_50 : decode b_take 50 = .ok (.iload 6, 2) := by decide +kernel
theorem d_take_52 : decode b_take 52 = .ok (.iaload, 1) := by decide +kernel
theorem d_take_53 : decode b_take 53 = .ok (.iconst (-1), 1) := by decide +kernel
theorem d_take_54 : decode b_take 54 = .ok (.if_icmp .ne 6, 3) := by decide +kernel
theorem d_take_57 : decode b_take 57 = .ok (.iload 6, 2) := by decide +kernel
theorem d_take_59 : decode b_take 59 = .ok (.ireturn, 1) := by decide +kernel
theorem d_take_60 : decode b_take 60 = .ok (.iinc 6 1, 3) := by decide +kernel
theorem d_take_63 : decode b_take 63 = .ok (.goto (-23), 3) := by decide +kernel
theorem d_take_66 : decode b_take 66 = .ok (.iconst 5, 1) := by decide +kernel
theorem d_take_67 : decode b_take 67 = .ok (.ireturn, 1) := by decide +kernel
theorem d_areCharacters_0 : decode b_areCharacters 0 = .ok (.iconst 0, 1) := by decide +kernel
theorem d_areCharacters_1 : decode b_areCharacters 1 = .ok (.istore_n 2, 1) := by decide +kernel
theorem d_areCharacters_2 : decode b_areCharacters 2 = .ok (.iload_n 2, 1) := by decide +kernel
theorem d_areCharacters_3 : decode b_areCharacters 3 = .ok (.iload_n 1, 1) := by decide +kernel
theorem d_areCharacters_4 : decode b_areCharacters 4 = .ok (.if_icmp .ge 28, 3) := by decide +kernel
theorem d_areCharacters_7 : decode b_areCharacters 7 = .ok (.iload_n 2, 1) := by decide +kernel
theorem d_areCharacters_8 : decode b_areCharacters 8 = .ok (.iconst 5, 1) := by decide +kernel
theorem d_areCharacters_9 : decode b_areCharacters 9 = .ok (.if_icmp .ge 23, 3) := by decide +kernel
theorem d_areCharacters_12 : decode b_areCharacters 12 = .ok (.aload_n 0, 1) := by decide +kernel
theorem d_areCharacters_13 : decode b_areCharacters 13 = .ok (.getfield 19, 3) := by decide +kernel
theorem d_areCharacters_16 : decode b_areCharacters 16 = .ok (.iload_n 2, 1) := by decide +kernel
theorem d_areCharacters_17 : decode b_areCharacters 17 = .ok (.iaload, 1) := by decide +kernel
theorem d_areCharacters_18 : decode b_areCharacters 18 = .ok (.invokestatic 135, 3) := by decide +kernel
theorem d_areCharacters_21 : decode b_areCharacters 21 = .ok (.ifCond .ne 5, 3) := by decide +kernel
theorem d_areCharacters_24 : decode b_areCharacters 24 = .ok (.iconst 0, 1) := by decide +kernel
theorem d_areCharacters_25 : decode b_areCharacters 25 = .ok (.ireturn, 1) := by decide +kernel
theorem d_areCharacters_26 : decode b_areCharacters 26 = .ok (.iinc 2 1, 3) := by decide +kernel
theorem d_areCharacters_29 : decode b_areCharacters 29 = .ok (.goto (-27), 3) := by decide +kernel
theorem d_areCharacters_32 : decode b_areCharacters 32 = .ok (.iconst 1, 1) := by decide +kernel
theorem d_areCharacters_33 : decode b_areCharacters 33 = .ok (.ireturn, 1) := by decide +kernel
theorem d_putGiven_0 : decode b_putGiven 0 = .ok (.aload_n 0, 1) := by decide +kernel
theorem d_putGiven_1 : decode b_putGiven 1 = .ok (.getfield 44, 3) := by decide +kernel
theorem d_putGiven_4 : decode b_putGiven 4 = .ok (.iload_n 2, 1) := by decide +kernel
theorem d_putGiven_5 : decode b_putGiven 5 = .ok (.isub, 1) := by decide +kernel
theorem d_putGiven_6 : decode b_putGiven 6 = .ok (.istore 4, 2) := by decide +kernel
theorem d_putGiven_8 : decode b_putGiven 8 = .ok (.iload 4, 2) := by decide +kernel
theorem d_putGiven_10 : decode b_putGiven 10 = .ok (.ifCond .le 37, 3) := by decide +kernel
theorem d_putGiven_13 : decode b_putGiven 13 = .ok (.aload_n 0, 1) := by decide +kernel
theorem d_putGiven_14 : decode b_putGiven 14 = .ok (.getfield 9, 3) := by decide +kernel
theorem d_putGiven_17 : decode b_putGiven 17 = .ok (.iload_n 2, 1) := by decide +kernel
theorem d_putGiven_18 : decode b_putGiven 18 = .ok (.aload_n 0, 1) := by decide +kernel
theorem d_putGiven_19 : decode b_putGiven 19 = .ok (.getfield 9, 3) := by decide +kernel
theorem d_putGiven_22 : decode b_putGiven 22 = .ok (.iload_n 1, 1) := by decide +kernel
theorem d_putGiven_23 : decode b_putGiven 23 = .ok (.iload_n 3, 1) := by decide +kernel
theorem d_putGiven_24 : decode b_putGiven 24 = .ok (.iadd, 1) := by decide +kernel
theorem d_putGiven_25 : decode b_putGiven 25 = .ok (.iload 4, 2) := by decide +kernel
theorem d_putGiven_27 : decode b_putGiven 27 = .ok (.invokestatic 138, 3) := by decide +kernel
theorem d_putGiven_30 : decode b_putGiven 30 = .ok (.aload_n 0, 1) := by decide +kernel
theorem d_putGiven_31 : decode b_putGiven 31 = .ok (.getfield 13, 3) := by decide +kernel
theorem d_putGiven_34 : decode b_putGiven 34 = .ok (.iload_n 2, 1) := by decide +kernel
theorem d_putGiven_35 : decode b_putGiven 35 = .ok (.aload_n 0, 1) := by decide +kernel
theorem d_putGiven_36 : decode b_putGiven 36 = .ok (.getfield 13, 3) := by decide +kernel
theorem d_putGiven_39 : decode b_putGiven 39 = .ok (.iload_n 1, 1) := by decide +kernel
theorem d_putGiven_40 : decode b_putGiven 40 = .ok (.iload_n 3, 1) := by decide +kernel
theorem d_putGiven_41 : decode b_putGiven 41 = .ok (.iadd, 1) := by decide +kernel
theorem d_putGiven_42 : decode b_putGiven 42 = .ok (.iload 4, 2) := by decide +kernel
theorem d_putGiven_44 : decode b_putGiven 44 = .ok (.invokestatic 138, 3) := by decide +kernel
theorem d_putGiven_47 : decode b_putGiven 47 = .ok (.iconst 0, 1) := by decide +kernel
theorem d_putGiven_48 : decode b_putGiven 48 = .ok (.istore 5, 2) := by decide +kernel
theorem d_putGiven_50 : decode b_putGiven 50 = .ok (.iload 5, 2) := by decide +kernel
theorem d_putGiven_52 : decode b_putGiven 52 = .ok (.iload_n 3, 1) := by decide +kernel
theorem d_putGiven_53 : decode b_putGiven 53 = .ok (.if_icmp .ge 56, 3) := by decide +kernel
theorem d_putGiven_56 : decode b_putGiven 56 = .ok (.iload 5, 2) := by decide +kernel
theorem d_putGiven_58 : decode b_putGiven 58 = .ok (.iconst 5, 1) := by decide +kernel
theorem d_putGiven_59 : decode b_putGiven 59 = .ok (.if_icmp .ge 50, 3) := by decide +kernel
theorem d_putGiven_62 : decode b_putGiven 62 = .ok (.aload_n 0, 1) := by decide +kernel
theorem d_putGiven_63 : decode b_putGiven 63 = .ok (.getfield 9, 3) := by decide +kernel
theorem d_putGiven_66 : decode b_putGiven 66 = .ok (.iload_n 1, 1) := by decide +kernel
theorem d_putGiven_67 : decode b_putGiven 67 = .ok (.iload 5, 2) := by decide +kernel
theorem d_putGiven_69 : decode b_putGiven 69 = .ok (.iadd, 1) := by decide +kernel
theorem d_putGiven_70 : decode b_putGiven 70 = .ok (.aload_n 0, 1) := by decide +kernel
theorem d_putGiven_71 : decode b_putGiven 71 = .ok (.getfield 19, 3) := by decide +kernel
theorem d_putGiven_74 : decode b_putGiven 74 = .ok (.iload 5, 2) := by decide +kernel
theorem d_putGiven_76 : decode b_putGiven 76 = .ok (.iaload, 1) := by decide +kernel
theorem d_putGiven_77 : decode b_putGiven 77 = .ok (.iastore, 1) := by decide +kernel
theorem d_putGiven_78 : decode b_putGiven 78 = .ok (.aload_n 0, 1) := by decide +kernel
theorem d_putGiven_79 : decode b_putGiven 79 = .ok (.getfield 13, 3) := by decide +kernel
theorem d_putGiven_82 : decode b_putGiven 82 = .ok (.iload_n 1, 1) := by decide +kernel
theorem d_putGiven_83 : decode b_putGiven 83 = .ok (.iload 5, 2) := by decide +kernel
theorem d_putGiven_85 : decode b_putGiven 85 = .ok (.iadd, 1) := by decide +kernel
theorem d_putGiven_86 : decode b_putGiven 86 = .ok (.aload_n 0, 1) := by decide +kernel
theorem d_putGiven_87 : decode b_putGiven 87 = .ok (.getfield 27, 3) := by decide +kernel
theorem d_putGiven_90 : decode b_putGiven 90 = .ok (.aload_n 0, 1) := by decide +kernel
theorem d_putGiven_91 : decode b_putGiven 91 = .ok (.getfield 19, 3) := by decide +kernel
theorem d_putGiven_94 : decode b_putGiven 94 = .ok (.iload 5, 2) := by decide +kernel
theorem d_putGiven_96 : decode b_putGiven 96 = .ok (.iaload, 1) := by decide +kernel
theorem d_putGiven_97 : decode b_putGiven 97 = .ok (.bipush 40, 2) := by decide +kernel
theorem d_putGiven_99 : decode b_putGiven 99 = .ok (.invokevirtual 144, 3) := by decide +kernel
theorem d_putGiven_102 : decode b_putGiven 102 = .ok (.iastore, 1) := by decide +kernel
theorem d_putGiven_103 : decode b_putGiven 103 = .ok (.iinc 5 1, 3) := by decide +kernel
theorem d_putGiven_106 : decode b_putGiven 106 = .ok (.goto (-56), 3) := by decide +kernel
theorem d_putGiven_109 : decode b_putGiven 109 = .ok (.aload_n 0, 1) := by decide +kernel
theorem d_putGiven_110 : decode b_putGiven 110 = .ok (.iload_n 1, 1) := by decide +kernel
theorem d_putGiven_111 : decode b_putGiven 111 = .ok (.iload_n 3, 1) := by decide +kernel
theorem d_putGiven_112 : decode b_putGiven 112 = .ok (.iadd, 1) := by decide +kernel
theorem d_putGiven_113 : decode b_putGiven 113 = .ok (.iload 4, 2) := by decide +kernel
theorem d_putGiven_115 : decode b_putGiven 115 = .ok (.iadd, 1) := by decide +kernel
theorem d_putGiven_116 : decode b_putGiven 116 = .ok (.putfield 44, 3) := by decide +kernel
theorem d_putGiven_119 : decode b_putGiven 119 = .ok (.iload_n 1, 1) := by decide +kernel
theorem d_putGiven_120 : decode b_putGiven 120 = .ok (.aload_n 0, 1) := by decide +kernel
theorem d_putGiven_121 : decode b_putGiven 121 = .ok (.getfield 52, 3) := by decide +kernel
theorem d_putGiven_124 : decode b_putGiven 124 = .ok (.if_icmp .ge 7, 3) := by decide +kernel
theorem d_putGiven_127 : decode b_putGiven 127 = .ok (.aload_n 0, 1) := by decide +kernel
theorem d_putGiven_128 : decode b_putGiven 128 = .ok (.invokevirtual 79, 3) := by decide +kernel
theorem d_putGiven_131 : decode b_putGiven 131 = .ok (.return_, 1) := by decide +kernel
theorem d_ruleAt_0 : decode b_ruleAt 0 = .ok (.iload_n 1, 1) := by decide +kernel
theorem d_ruleAt_1 : decode b_ruleAt 1 = .ok (.ifCond .gt 6, 3) := by decide +kernel
theorem d_ruleAt_4 : decode b_ruleAt 4 = .ok (.bipush 20, 2) := by decide +kernel
theorem d_ruleAt_6 : decode b_ruleAt 6 = .ok (.ireturn, 1) := by decide +kernel
theorem d_ruleAt_7 : decode b_ruleAt 7 = .ok (.iload_n 1, 1) := by decide +kernel
theorem d_ruleAt_8 : decode b_ruleAt 8 = .ok (.aload_n 0, 1) := by decide +kernel
theorem d_ruleAt_9 : decode b_ruleAt 9 = .ok (.getfield 44, 3) := by decide +kernel
theorem d_ruleAt_12 : decode b_ruleAt 12 = .ok (.if_icmp .lt 6, 3) := by decide +kernel
theorem d_ruleAt_15 : decode b_ruleAt 15 = .ok (.bipush 30, 2) := by decide +kernel
theorem d_ruleAt_17 : decode b_ruleAt 17 = .ok (.ireturn, 1) := by decide +kernel
theorem d_ruleAt_18 : decode b_ruleAt 18 = .ok (.aload_n 0, 1) := by decide +kernel
theorem d_ruleAt_19 : decode b_ruleAt 19 = .ok (.getfield 52, 3) := by decide +kernel
theorem d_ruleAt_22 : decode b_ruleAt 22 = .ok (.istore_n 2, 1) := by decide +kernel
theorem d_ruleAt_23 : decode b_ruleAt 23 = .ok (.iload_n 2, 1) := by decide +kernel
theorem d_ruleAt_24 : decode b_ruleAt 24 = .ok (.iload_n 1, 1) := by decide +kernel
theorem d_ruleAt_25 : decode b_ruleAt 25 = .ok (.if_icmp .gt 53, 3) := by decide +kernel
theorem d_ruleAt_28 : decode b_ruleAt 28 = .ok (.aload_n 0, 1) := by decide +kernel
theorem d_ruleAt_29 : decode b_ruleAt 29 = .ok (.iload_n 2, 1) := by decide +kernel
theorem d_ruleAt_30 : decode b_ruleAt 30 = .ok (.invokevirtual 114, 3) := by decide +kernel
theorem d_ruleAt_33 : decode b_ruleAt 33 = .ok (.istore_n 3, 1) := by decide +kernel
theorem d_ruleAt_34 : decode b_ruleAt 34 = .ok (.aload_n 0, 1) := by decide +kernel
theorem d_ruleAt_35 : decode b_ruleAt 35 = .ok (.getfield 16, 3) := by decide +kernel
theorem d_ruleAt_38 : decode b_ruleAt 38 = .ok (.iload_n 2, 1) := by decide +kernel
theorem d_ruleAt_39 : decode b_ruleAt 39 = .ok (.aload_n 0, 1) := by decide +kernel
theorem d_ruleAt_40 : decode b_ruleAt 40 = .ok (.iload_n 3, 1) := by decide +kernel
theorem d_ruleAt_41 : decode b_ruleAt 41 = .ok (.aload_n 0, 1) := by decide +kernel
theorem d_ruleAt_42 : decode b_ruleAt 42 = .ok (.getfield 9, 3) := by decide +kernel
theorem d_ruleAt_45 : decode b_ruleAt 45 = .ok (.iload_n 2, 1) := by decide +kernel
theorem d_ruleAt_46 : decode b_ruleAt 46 = .ok (.iaload, 1) := by decide +kernel
theorem d_ruleAt_47 : decode b_ruleAt 47 = .ok (.invokevirtual 154, 3) := by decide +kernel
theorem d_ruleAt_50 : decode b_ruleAt 50 = .ok (.iastore, 1) := by decide +kernel
theorem d_ruleAt_51 : decode b_ruleAt 51 = .ok (.aload_n 0, 1) := by decide +kernel
theorem d_ruleAt_52 : decode b_ruleAt 52 = .ok (.getfield 40, 3) := by decide +kernel
theorem d_ruleAt_55 : decode b_ruleAt 55 = .ok (.iload_n 3, 1) := by decide +kernel
theorem d_ruleAt_56 : decode b_ruleAt 56 = .ok (.aload_n 0, 1) := by decide +kernel
theorem d_ruleAt_57 : decode b_ruleAt 57 = .ok (.getfield 9, 3) := by decide +kernel
theorem d_ruleAt_60 : decode b_ruleAt 60 = .ok (.iload_n 2, 1) := by decide +kernel
theorem d_ruleAt_61 : decode b_ruleAt 61 = .ok (.iaload, 1) := by decide +kernel
theorem d_ruleAt_62 : decode b_ruleAt 62 = .ok (.invokevirtual 157, 3) := by decide +kernel
theorem d_ruleAt_65 : decode b_ruleAt 65 = .ok (.aload_n 0, 1) := by decide +kernel
theorem d_ruleAt_66 : decode b_ruleAt 66 = .ok (.iload_n 2, 1) := by decide +kernel
theorem d_ruleAt_67 : decode b_ruleAt 67 = .ok (.iconst 1, 1) := by decide +kernel
theorem d_ruleAt_68 : decode b_ruleAt 68 = .ok (.iadd, 1) := by decide +kernel
theorem d_ruleAt_69 : decode b_ruleAt 69 = .ok (.putfield 52, 3) := by decide +kernel
theorem d_ruleAt_72 : decode b_ruleAt 72 = .ok (.iinc 2 1, 3) := by decide +kernel
theorem d_ruleAt_75 : decode b_ruleAt 75 = .ok (.goto (-52), 3) := by decide +kernel
theorem d_ruleAt_78 : decode b_ruleAt 78 = .ok (.aload_n 0, 1) := by decide +kernel
theorem d_ruleAt_79 : decode b_ruleAt 79 = .ok (.getfield 16, 3) := by decide +kernel
theorem d_ruleAt_82 : decode b_ruleAt 82 = .ok (.iload_n 1, 1) := by decide +kernel
theorem d_ruleAt_83 : decode b_ruleAt 83 = .ok (.iaload, 1) := by decide +kernel
theorem d_ruleAt_84 : decode b_ruleAt 84 = .ok (.ireturn, 1) := by decide +kernel
theorem d_breaksAt_0 : decode b_breaksAt 0 = .ok (.aload_n 0, 1) := by decide +kernel
theorem d_breaksAt_1 : decode b_breaksAt 1 = .ok (.iload_n 1, 1) := by decide +kernel
theorem d_breaksAt_2 : decode b_breaksAt 2 = .ok (.invokevirtual 123, 3) := by decide +kernel
theorem d_breaksAt_5 : decode b_breaksAt 5 = .ok (.lookupswitch 85 #[(30, 67), (40, 67), (50, 69), (80, 83), (180, 83), (200, 83), (310, 83)], 67) := by decide +kernel
theorem d_breaksAt_72 : decode b_breaksAt 72 = .ok (.iconst 2, 1) := by decide +kernel
theorem d_breaksAt_73 : decode b_breaksAt 73 = .ok (.ireturn, 1) := by decide +kernel
theorem d_breaksAt_74 : decode b_breaksAt 74 = .ok (.aload_n 0, 1) := by decide +kernel
theorem d_breaksAt_75 : decode b_breaksAt 75 = .ok (.iload_n 1, 1) := by decide +kernel
theorem d_breaksAt_76 : decode b_breaksAt 76 = .ok (.invokevirtual 151, 3) := by decide +kernel
theorem d_breaksAt_79 : decode b_breaksAt 79 = .ok (.ifCond .eq 7, 3) := by decide +kernel
theorem d_breaksAt_82 : decode b_breaksAt 82 = .ok (.iconst 0, 1) := by decide +kernel
theorem d_breaksAt_83 : decode b_breaksAt 83 = .ok (.goto 4, 3) := by decide +kernel
theorem d_breaksAt_86 : decode b_breaksAt 86 = .ok (.iconst 2, 1) := by decide +kernel
theorem d_breaksAt_87 : decode b_breaksAt 87 = .ok (.ireturn, 1) := by decide +kernel
theorem d_breaksAt_88 : decode b_breaksAt 88 = .ok (.iconst 1, 1) := by decide +kernel
theorem d_breaksAt_89 : decode b_breaksAt 89 = .ok (.ireturn, 1) := by decide +kernel
theorem d_breaksAt_90 : decode b_breaksAt 90 = .ok (.iconst 0, 1) := by decide +kernel
theorem d_breaksAt_91 : decode b_breaksAt 91 = .ok (.ireturn, 1) := by decide +kernel
theorem d_loose_0 : decode b_loose 0 = .ok (.aload_n 0, 1) := by decide +kernel
theorem d_loose_1 : decode b_loose 1 = .ok (.getfield 48, 3) := by decide +kernel
theorem d_loose_4 : decode b_loose 4 = .ok (.istore_n 2, 1) := by decide +kernel
theorem d_loose_5 : decode b_loose 5 = .ok (.aload_n 0, 1) := by decide +kernel
theorem d_loose_6 : decode b_loose 6 = .ok (.iload_n 1, 1) := by decide +kernel
theorem d_loose_7 : decode b_loose 7 = .ok (.putfield 48, 3) := by decide +kernel
theorem d_loose_10 : decode b_loose 10 = .ok (.iload_n 2, 1) := by decide +kernel
theorem d_loose_11 : decode b_loose 11 = .ok (.iload_n 1, 1) := by decide +kernel
theorem d_loose_12 : decode b_loose 12 = .ok (.if_icmp .eq 7, 3) := by decide +kernel
theorem d_loose_15 : decode b_loose 15 = .ok (.aload_n 0, 1) := by decide +kernel
theorem d_loose_16 : decode b_loose 16 = .ok (.invokevirtual 79, 3) := by decide +kernel
theorem d_loose_19 : decode b_loose 19 = .ok (.iload_n 2, 1) := by decide +kernel
theorem d_loose_20 : decode b_loose 20 = .ok (.ireturn, 1) := by decide +kernel
theorem d_clear_0 : decode b_clear 0 = .ok (.aload_n 0, 1) := by decide +kernel
theorem d_clear_1 : decode b_clear 1 = .ok (.getfield 44, 3) := by decide +kernel
theorem d_clear_4 : decode b_clear 4 = .ok (.istore_n 1, 1) := by decide +kernel
theorem d_clear_5 : decode b_clear 5 = .ok (.aload_n 0, 1) := by decide +kernel
theorem d_clear_6 : decode b_clear 6 = .ok (.iconst 0, 1) := by decide +kernel
theorem d_clear_7 : decode b_clear 7 = .ok (.putfield 44, 3) := by decide +kernel
theorem d_clear_10 : decode b_clear 10 = .ok (.aload_n 0, 1) := by decide +kernel
theorem d_clear_11 : decode b_clear 11 = .ok (.invokevirtual 79, 3) := by decide +kernel
theorem d_clear_14 : decode b_clear 14 = .ok (.iload_n 1, 1) := by decide +kernel
theorem d_clear_15 : decode b_clear 15 = .ok (.ireturn, 1) := by decide +kernel
theorem d_mIsChar_0 : decode b_mIsChar 0 = .ok (.iload_n 0, 1) := by decide +kernel
theorem d_mIsChar_1 : decode b_mIsChar 1 = .ok (.ifCond .lt 13, 3) := by decide +kernel
theorem d_mIsChar_4 : decode b_mIsChar 4 = .ok (.iload_n 0, 1) := by decide +kernel
theorem d_mIsChar_5 : decode b_mIsChar 5 = .ok (.ldc 42, 2) := by decide +kernel
theorem d_mIsChar_7 : decode b_mIsChar 7 = .ok (.if_icmp .gt 7, 3) := by decide +kernel
theorem d_mIsChar_10 : decode b_mIsChar 10 = .ok (.iconst 1, 1) := by decide +kernel
theorem d_mIsChar_11 : decode b_mIsChar 11 = .ok (.goto 4, 3) := by decide +kernel
theorem d_mIsChar_14 : decode b_mIsChar 14 = .ok (.iconst 0, 1) := by decide +kernel
theorem d_mIsChar_15 : decode b_mIsChar 15 = .ok (.ireturn, 1) := by decide +kernel
theorem d_mIsLetter_0 : decode b_mIsLetter 0 = .ok (.iload_n 0, 1) := by decide +kernel
theorem d_mIsLetter_1 : decode b_mIsLetter 1 = .ok (.bipush 27, 2) := by decide +kernel
theorem d_mIsLetter_3 : decode b_mIsLetter 3 = .ok (.if_icmp .eq 9, 3) := by decide +kernel
theorem d_mIsLetter_6 : decode b_mIsLetter 6 = .ok (.iload_n 0, 1) := by decide +kernel
theorem d_mIsLetter_7 : decode b_mIsLetter 7 = .ok (.bipush 28, 2) := by decide +kernel
theorem d_mIsLetter_9 : decode b_mIsLetter 9 = .ok (.if_icmp .ne 7, 3) := by decide +kernel
theorem d_mIsLetter_12 : decode b_mIsLetter 12 = .ok (.iconst 1, 1) := by decide +kernel
theorem d_mIsLetter_13 : decode b_mIsLetter 13 = .ok (.goto 4, 3) := by decide +kernel
theorem d_mIsLetter_16 : decode b_mIsLetter 16 = .ok (.iconst 0, 1) := by decide +kernel
theorem d_mIsLetter_17 : decode b_mIsLetter 17 = .ok (.ireturn, 1) := by decide +kernel
theorem d_mIsHangul_0 : decode b_mIsHangul 0 = .ok (.iload_n 0, 1) := by decide +kernel
theorem d_mIsHangul_1 : decode b_mIsHangul 1 = .ok (.bipush 32, 2) := by decide +kernel
theorem d_mIsHangul_3 : decode b_mIsHangul 3 = .ok (.if_icmp .lt 13, 3) := by decide +kernel
theorem d_mIsHangul_6 : decode b_mIsHangul 6 = .ok (.iload_n 0, 1) := by decide +kernel
theorem d_mIsHangul_7 : decode b_mIsHangul 7 = .ok (.bipush 36, 2) := by decide +kernel
theorem d_mIsHangul_9 : decode b_mIsHangul 9 = .ok (.if_icmp .gt 7, 3) := by decide +kernel
theorem d_mIsHangul_12 : decode b_mIsHangul 12 = .ok (.iconst 1, 1) := by decide +kernel
theorem d_mIsHangul_13 : decode b_mIsHangul 13 = .ok (.goto 4, 3) := by decide +kernel
theorem d_mIsHangul_16 : decode b_mIsHangul 16 = .ok (.iconst 0, 1) := by decide +kernel
theorem d_mIsHangul_17 : decode b_mIsHangul 17 = .ok (.ireturn, 1) := by decide +kernel
theorem d_mIsBlank_0 : decode b_mIsBlank 0 = .ok (.iload_n 0, 1) := by decide +kernel
theorem d_mIsBlank_1 : decode b_mIsBlank 1 = .ok (.iconst 4, 1) := by decide +kernel
theorem d_mIsBlank_2 : decode b_mIsBlank 2 = .ok (.if_icmp .gt 7, 3) := by decide +kernel
theorem d_mIsBlank_5 : decode b_mIsBlank 5 = .ok (.iconst 1, 1) := by decide +kernel
theorem d_mIsBlank_6 : decode b_mIsBlank 6 = .ok (.goto 4, 3) := by decide +kernel
theorem d_mIsBlank_9 : decode b_mIsBlank 9 = .ok (.iconst 0, 1) := by decide +kernel
theorem d_mIsBlank_10 : decode b_mIsBlank 10 = .ok (.ireturn, 1) := by decide +kernel
theorem d_mIsNumeric_0 : decode b_mIsNumeric 0 = .ok (.iload_n 0, 1) := by decide +kernel
theorem d_mIsNumeric_1 : decode b_mIsNumeric 1 = .ok (.bipush 15, 2) := by decide +kernel
theorem d_mIsNumeric_3 : decode b_mIsNumeric 3 = .ok (.if_icmp .eq 15, 3) := by decide +kernel
theorem d_mIsNumeric_6 : decode b_mIsNumeric 6 = .ok (.iload_n 0, 1) := by decide +kernel
theorem d_mIsNumeric_7 : decode b_mIsNumeric 7 = .ok (.bipush 16, 2) := by decide +kernel
theorem d_mIsNumeric_9 : decode b_mIsNumeric 9 = .ok (.if_icmp .eq 9, 3) := by decide +kernel
theorem d_mIsNumeric_12 : decode b_mIsNumeric 12 = .ok (.iload_n 0, 1) := by decide +kernel
theorem d_mIsNumeric_13 : decode b_mIsNumeric 13 = .ok (.bipush 23, 2) := by decide +kernel
theorem d_mIsNumeric_15 : decode b_mIsNumeric 15 = .ok (.if_icmp .ne 19, 3) := by decide +kernel
theorem d_mIsNumeric_18 : decode b_mIsNumeric 18 = .ok (.iload_n 1, 1) := by decide +kernel
theorem d_mIsNumeric_19 : decode b_mIsNumeric 19 = .ok (.bipush 24, 2) := by decide +kernel
theorem d_mIsNumeric_21 : decode b_mIsNumeric 21 = .ok (.if_icmp .eq 9, 3) := by decide +kernel
theorem d_mIsNumeric_24 : decode b_mIsNumeric 24 = .ok (.iload_n 1, 1) := by decide +kernel
theorem d_mIsNumeric_25 : decode b_mIsNumeric 25 = .ok (.bipush 25, 2) := by decide +kernel
theorem d_mIsNumeric_27 : decode b_mIsNumeric 27 = .ok (.if_icmp .ne 7, 3) := by decide +kernel
theorem d_mIsNumeric_30 : decode b_mIsNumeric 30 = .ok (.iconst 1, 1) := by decide +kernel
theorem d_mIsNumeric_31 : decode b_mIsNumeric 31 = .ok (.goto 4, 3) := by decide +kernel
theorem d_mIsNumeric_34 : decode b_mIsNumeric 34 = .ok (.iconst 0, 1) := by decide +kernel
theorem d_mIsNumeric_35 : decode b_mIsNumeric 35 = .ok (.istore_n 2, 1) := by decide +kernel
theorem d_mIsNumeric_36 : decode b_mIsNumeric 36 = .ok (.iload_n 0, 1) := by decide +kernel
theorem d_mIsNumeric_37 : decode b_mIsNumeric 37 = .ok (.bipush 24, 2) := by decide +kernel
theorem d_mIsNumeric_39 : decode b_mIsNumeric 39 = .ok (.if_icmp .eq 9, 3) := by decide +kernel
theorem d_mIsNumeric_42 : decode b_mIsNumeric 42 = .ok (.iload_n 0, 1) := by decide +kernel
theorem d_mIsNumeric_43 : decode b_mIsNumeric 43 = .ok (.bipush 25, 2) := by decide +kernel
theorem d_mIsNumeric_45 : decode b_mIsNumeric 45 = .ok (.if_icmp .ne 19, 3) := by decide +kernel
theorem d_mIsNumeric_48 : decode b_mIsNumeric 48 = .ok (.iload_n 1, 1) := by decide +kernel
theorem d_mIsNumeric_49 : decode b_mIsNumeric 49 = .ok (.bipush 20, 2) := by decide +kernel
theorem d_mIsNumeric_51 : decode b_mIsNumeric 51 = .ok (.if_icmp .eq 9, 3) := by decide +kernel
theorem d_mIsNumeric_54 : decode b_mIsNumeric 54 = .ok (.iload_n 1, 1) := by decide +kernel
theorem d_mIsNumeric_55 : decode b_mIsNumeric 55 = .ok (.bipush 23, 2) := by decide +kernel
theorem d_mIsNumeric_57 : decode b_mIsNumeric 57 = .ok (.if_icmp .ne 7, 3) := by decide +kernel
theorem d_mIsNumeric_60 : decode b_mIsNumeric 60 = .ok (.iconst 1, 1) := by decide +kernel
theorem d_mIsNumeric_61 : decode b_mIsNumeric 61 = .ok (.goto 4, 3) := by decide +kernel
theorem d_mIsNumeric_64 : decode b_mIsNumeric 64 = .ok (.iconst 0, 1) := by decide +kernel
theorem d_mIsNumeric_65 : decode b_mIsNumeric 65 = .ok (.istore_n 3, 1) := by decide +kernel
theorem d_mIsNumeric_66 : decode b_mIsNumeric 66 = .ok (.iload_n 2, 1) := by decide +kernel
theorem d_mIsNumeric_67 : decode b_mIsNumeric 67 = .ok (.ifCond .ne 37, 3) := by decide +kernel
theorem d_mIsNumeric_70 : decode b_mIsNumeric 70 = .ok (.iload_n 3, 1) := by decide +kernel
theorem d_mIsNumeric_71 : decode b_mIsNumeric 71 = .ok (.ifCond .ne 33, 3) := by decide +kernel
theorem d_mIsNumeric_74 : decode b_mIsNumeric 74 = .ok (.iload_n 0, 1) := by decide +kernel
theorem d_mIsNumeric_75 : decode b_mIsNumeric 75 = .ok (.bipush 13, 2) := by decide +kernel
theorem d_mIsNumeric_77 : decode b_mIsNumeric 77 = .ok (.if_icmp .eq 21, 3) := by decide +kernel
theorem d_mIsNumeric_80 : decode b_mIsNumeric 80 = .ok (.iload_n 0, 1) := by decide +kernel
theorem d_mIsNumeric_81 : decode b_mIsNumeric 81 = .ok (.bipush 22, 2) := by decide +kernel
theorem d_mIsNumeric_83 : decode b_mIsNumeric 83 = .ok (.if_icmp .eq 15, 3) := by decide +kernel
theorem d_mIsNumeric_86 : decode b_mIsNumeric 86 = .ok (.iload_n 0, 1) := by decide +kernel
theorem d_mIsNumeric_87 : decode b_mIsNumeric 87 = .ok (.bipush 23, 2) := by decide +kernel
theorem d_mIsNumeric_89 : decode b_mIsNumeric 89 = .ok (.if_icmp .eq 9, 3) := by decide +kernel
theorem d_mIsNumeric_92 : decode b_mIsNumeric 92 = .ok (.iload_n 0, 1) := by decide +kernel
theorem d_mIsNumeric_93 : decode b_mIsNumeric 93 = .ok (.bipush 26, 2) := by decide +kernel
theorem d_mIsNumeric_95 : decode b_mIsNumeric 95 = .ok (.if_icmp .ne 13, 3) := by decide +kernel
theorem d_mIsNumeric_98 : decode b_mIsNumeric 98 = .ok (.iload_n 1, 1) := by decide +kernel
theorem d_mIsNumeric_99 : decode b_mIsNumeric 99 = .ok (.bipush 23, 2) := by decide +kernel
theorem d_mIsNumeric_101 : decode b_mIsNumeric 101 = .ok (.if_icmp .ne 7, 3) := by decide +kernel
theorem d_mIsNumeric_104 : decode b_mIsNumeric 104 = .ok (.iconst 1, 1) := by decide +kernel
theorem d_mIsNumeric_105 : decode b_mIsNumeric 105 = .ok (.goto 4, 3) := by decide +kernel
