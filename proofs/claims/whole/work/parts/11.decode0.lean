theorem d_isIn_0 : decode b_isIn 0 = .ok (.iload_n 0, 1) := by decide +kernel
theorem d_isIn_1 : decode b_isIn 1 = .ok (.ifCond .lt 17, 3) := by decide +kernel
theorem d_isIn_4 : decode b_isIn 4 = .ok (.lload_n 1, 1) := by decide +kernel
theorem d_isIn_5 : decode b_isIn 5 = .ok (.iload_n 0, 1) := by decide +kernel
theorem d_isIn_6 : decode b_isIn 6 = .ok (.lshr, 1) := by decide +kernel
theorem d_isIn_7 : decode b_isIn 7 = .ok (.lconst 1, 1) := by decide +kernel
theorem d_isIn_8 : decode b_isIn 8 = .ok (.land, 1) := by decide +kernel
theorem d_isIn_9 : decode b_isIn 9 = .ok (.lconst 0, 1) := by decide +kernel
theorem d_isIn_10 : decode b_isIn 10 = .ok (.lcmp, 1) := by decide +kernel
theorem d_isIn_11 : decode b_isIn 11 = .ok (.ifCond .eq 7, 3) := by decide +kernel
theorem d_isIn_14 : decode b_isIn 14 = .ok (.iconst 1, 1) := by decide +kernel
theorem d_isIn_15 : decode b_isIn 15 = .ok (.goto 4, 3) := by decide +kernel
theorem d_isIn_18 : decode b_isIn 18 = .ok (.iconst 0, 1) := by decide +kernel
theorem d_isIn_19 : decode b_isIn 19 = .ok (.ireturn, 1) := by decide +kernel
theorem d_isCharacter_0 : decode b_isCharacter 0 = .ok (.iload_n 0, 1) := by decide +kernel
theorem d_isCharacter_1 : decode b_isCharacter 1 = .ok (.ifCond .lt 13, 3) := by decide +kernel
theorem d_isCharacter_4 : decode b_isCharacter 4 = .ok (.iload_n 0, 1) := by decide +kernel
theorem d_isCharacter_5 : decode b_isCharacter 5 = .ok (.ldc 134, 2) := by decide +kernel
theorem d_isCharacter_7 : decode b_isCharacter 7 = .ok (.if_icmp .gt 7, 3) := by decide +kernel
theorem d_isCharacter_10 : decode b_isCharacter 10 = .ok (.iconst 1, 1) := by decide +kernel
theorem d_isCharacter_11 : decode b_isCharacter 11 = .ok (.goto 4, 3) := by decide +kernel
theorem d_isCharacter_14 : decode b_isCharacter 14 = .ok (.iconst 0, 1) := by decide +kernel
theorem d_isCharacter_15 : decode b_isCharacter 15 = .ok (.ireturn, 1) := by decide +kernel
theorem d_isRange_0 : decode b_isRange 0 = .ok (.iload_n 0, 1) := by decide +kernel
theorem d_isRange_1 : decode b_isRange 1 = .ok (.invokestatic 135, 3) := by decide +kernel
theorem d_isRange_4 : decode b_isRange 4 = .ok (.ifCond .eq 19, 3) := by decide +kernel
theorem d_isRange_7 : decode b_isRange 7 = .ok (.iload_n 1, 1) := by decide +kernel
theorem d_isRange_8 : decode b_isRange 8 = .ok (.invokestatic 135, 3) := by decide +kernel
theorem d_isRange_11 : decode b_isRange 11 = .ok (.ifCond .eq 12, 3) := by decide +kernel
theorem d_isRange_14 : decode b_isRange 14 = .ok (.iload_n 0, 1) := by decide +kernel
theorem d_isRange_15 : decode b_isRange 15 = .ok (.iload_n 1, 1) := by decide +kernel
theorem d_isRange_16 : decode b_isRange 16 = .ok (.if_icmp .gt 7, 3) := by decide +kernel
theorem d_isRange_19 : decode b_isRange 19 = .ok (.iconst 1, 1) := by decide +kernel
theorem d_isRange_20 : decode b_isRange 20 = .ok (.goto 4, 3) := by decide +kernel
theorem d_isRange_23 : decode b_isRange 23 = .ok (.iconst 0, 1) := by decide +kernel
theorem d_isRange_24 : decode b_isRange 24 = .ok (.ireturn, 1) := by decide +kernel
theorem d_standsFor_0 : decode b_standsFor 0 = .ok (.iload_n 0, 1) := by decide +kernel
theorem d_standsFor_1 : decode b_standsFor 1 = .ok (.ldc2_w 235, 3) := by decide +kernel
theorem d_standsFor_4 : decode b_standsFor 4 = .ok (.invokestatic 130, 3) := by decide +kernel
theorem d_standsFor_7 : decode b_standsFor 7 = .ok (.ifCond .eq 8, 3) := by decide +kernel
theorem d_standsFor_10 : decode b_standsFor 10 = .ok (.bipush 27, 2) := by decide +kernel
theorem d_standsFor_12 : decode b_standsFor 12 = .ok (.goto 4, 3) := by decide +kernel
theorem d_standsFor_15 : decode b_standsFor 15 = .ok (.iload_n 0, 1) := by decide +kernel
theorem d_standsFor_16 : decode b_standsFor 16 = .ok (.ireturn, 1) := by decide +kernel
theorem d_ruleOfGlue_0 : decode b_ruleOfGlue 0 = .ok (.iload_n 0, 1) := by decide +kernel
theorem d_ruleOfGlue_1 : decode b_ruleOfGlue 1 = .ok (.bipush 6, 2) := by decide +kernel
theorem d_ruleOfGlue_3 : decode b_ruleOfGlue 3 = .ok (.if_icmp .eq 9, 3) := by decide +kernel
theorem d_ruleOfGlue_6 : decode b_ruleOfGlue 6 = .ok (.iload_n 1, 1) := by decide +kernel
theorem d_ruleOfGlue_7 : decode b_ruleOfGlue 7 = .ok (.bipush 6, 2) := by decide +kernel
theorem d_ruleOfGlue_9 : decode b_ruleOfGlue 9 = .ok (.if_icmp .ne 6, 3) := by decide +kernel
theorem d_ruleOfGlue_12 : decode b_ruleOfGlue 12 = .ok (.bipush 110, 2) := by decide +kernel
theorem d_ruleOfGlue_14 : decode b_ruleOfGlue 14 = .ok (.ireturn, 1) := by decide +kernel
theorem d_ruleOfGlue_15 : decode b_ruleOfGlue 15 = .ok (.iload_n 0, 1) := by decide +kernel
theorem d_ruleOfGlue_16 : decode b_ruleOfGlue 16 = .ok (.bipush 9, 2) := by decide +kernel
theorem d_ruleOfGlue_18 : decode b_ruleOfGlue 18 = .ok (.if_icmp .ne 6, 3) := by decide +kernel
theorem d_ruleOfGlue_21 : decode b_ruleOfGlue 21 = .ok (.bipush 120, 2) := by decide +kernel
theorem d_ruleOfGlue_23 : decode b_ruleOfGlue 23 = .ok (.ireturn, 1) := by decide +kernel
theorem d_ruleOfGlue_24 : decode b_ruleOfGlue 24 = .ok (.iload_n 1, 1) := by decide +kernel
theorem d_ruleOfGlue_25 : decode b_ruleOfGlue 25 = .ok (.bipush 9, 2) := by decide +kernel
theorem d_ruleOfGlue_27 : decode b_ruleOfGlue 27 = .ok (.if_icmp .ne 21, 3) := by decide +kernel
theorem d_ruleOfGlue_30 : decode b_ruleOfGlue 30 = .ok (.iload_n 0, 1) := by decide +kernel
theorem d_ruleOfGlue_31 : decode b_ruleOfGlue 31 = .ok (.iconst 4, 1) := by decide +kernel
theorem d_ruleOfGlue_32 : decode b_ruleOfGlue 32 = .ok (.if_icmp .eq 16, 3) := by decide +kernel
theorem d_ruleOfGlue_35 : decode b_ruleOfGlue 35 = .ok (.iload_n 0, 1) := by decide +kernel
theorem d_ruleOfGlue_36 : decode b_ruleOfGlue 36 = .ok (.ldc2_w 202, 3) := by decide +kernel
theorem d_ruleOfGlue_39 : decode b_ruleOfGlue 39 = .ok (.invokestatic 130, 3) := by decide +kernel
theorem d_ruleOfGlue_42 : decode b_ruleOfGlue 42 = .ok (.ifCond .ne 6, 3) := by decide +kernel
theorem d_ruleOfGlue_45 : decode b_ruleOfGlue 45 = .ok (.bipush 121, 2) := by decide +kernel
theorem d_ruleOfGlue_47 : decode b_ruleOfGlue 47 = .ok (.ireturn, 1) := by decide +kernel
theorem d_ruleOfGlue_48 : decode b_ruleOfGlue 48 = .ok (.iload_n 1, 1) := by decide +kernel
theorem d_ruleOfGlue_49 : decode b_ruleOfGlue 49 = .ok (.ldc2_w 204, 3) := by decide +kernel
theorem d_ruleOfGlue_52 : decode b_ruleOfGlue 52 = .ok (.invokestatic 130, 3) := by decide +kernel
theorem d_ruleOfGlue_55 : decode b_ruleOfGlue 55 = .ok (.ifCond .eq 9, 3) := by decide +kernel
theorem d_ruleOfGlue_58 : decode b_ruleOfGlue 58 = .ok (.sipush 130, 3) := by decide +kernel
theorem d_ruleOfGlue_61 : decode b_ruleOfGlue 61 = .ok (.goto 4, 3) := by decide +kernel
theorem d_ruleOfGlue_64 : decode b_ruleOfGlue 64 = .ok (.iconst 0, 1) := by decide +kernel
theorem d_ruleOfGlue_65 : decode b_ruleOfGlue 65 = .ok (.ireturn, 1) := by decide +kernel
theorem d_ruleAcrossSpaces_0 : decode b_ruleAcrossSpaces 0 = .ok (.iload_n 0, 1) := by decide +kernel
theorem d_ruleAcrossSpaces_1 : decode b_ruleAcrossSpaces 1 = .ok (.bipush 20, 2) := by decide +kernel
theorem d_ruleAcrossSpaces_3 : decode b_ruleAcrossSpaces 3 = .ok (.if_icmp .ne 7, 3) := by decide +kernel
theorem d_ruleAcrossSpaces_6 : decode b_ruleAcrossSpaces 6 = .ok (.sipush 140, 3) := by decide +kernel
theorem d_ruleAcrossSpaces_9 : decode b_ruleAcrossSpaces 9 = .ok (.ireturn, 1) := by decide +kernel
theorem d_ruleAcrossSpaces_10 : decode b_ruleAcrossSpaces 10 = .ok (.iload_n 0, 1) := by decide +kernel
theorem d_ruleAcrossSpaces_11 : decode b_ruleAcrossSpaces 11 = .ok (.bipush 21, 2) := by decide +kernel
theorem d_ruleAcrossSpaces_13 : decode b_ruleAcrossSpaces 13 = .ok (.if_icmp .ne 13, 3) := by decide +kernel
theorem d_ruleAcrossSpaces_16 : decode b_ruleAcrossSpaces 16 = .ok (.iload_n 1, 1) := by decide +kernel
theorem d_ruleAcrossSpaces_17 : decode b_ruleAcrossSpaces 17 = .ok (.bipush 20, 2) := by decide +kernel
theorem d_ruleAcrossSpaces_19 : decode b_ruleAcrossSpaces 19 = .ok (.if_icmp .ne 7, 3) := by decide +kernel
theorem d_ruleAcrossSpaces_22 : decode b_ruleAcrossSpaces 22 = .ok (.sipush 150, 3) := by decide +kernel
theorem d_ruleAcrossSpaces_25 : decode b_ruleAcrossSpaces 25 = .ok (.ireturn, 1) := by decide +kernel
theorem d_ruleAcrossSpaces_26 : decode b_ruleAcrossSpaces 26 = .ok (.iload_n 0, 1) := by decide +kernel
theorem d_ruleAcrossSpaces_27 : decode b_ruleAcrossSpaces 27 = .ok (.ldc2_w 206, 3) := by decide +kernel
theorem d_ruleAcrossSpaces_30 : decode b_ruleAcrossSpaces 30 = .ok (.invokestatic 130, 3) := by decide +kernel
theorem d_ruleAcrossSpaces_33 : decode b_ruleAcrossSpaces 33 = .ok (.ifCond .eq 13, 3) := by decide +kernel
theorem d_ruleAcrossSpaces_36 : decode b_ruleAcrossSpaces 36 = .ok (.iload_n 1, 1) := by decide +kernel
theorem d_ruleAcrossSpaces_37 : decode b_ruleAcrossSpaces 37 = .ok (.bipush 19, 2) := by decide +kernel
theorem d_ruleAcrossSpaces_39 : decode b_ruleAcrossSpaces 39 = .ok (.if_icmp .ne 7, 3) := by decide +kernel
theorem d_ruleAcrossSpaces_42 : decode b_ruleAcrossSpaces 42 = .ok (.sipush 160, 3) := by decide +kernel
theorem d_ruleAcrossSpaces_45 : decode b_ruleAcrossSpaces 45 = .ok (.ireturn, 1) := by decide +kernel
theorem d_ruleAcrossSpaces_46 : decode b_ruleAcrossSpaces 46 = .ok (.iload_n 0, 1) := by decide +kernel
theorem d_ruleAcrossSpaces_47 : decode b_ruleAcrossSpaces 47 = .ok (.bipush 10, 2) := by decide +kernel
theorem d_ruleAcrossSpaces_49 : decode b_ruleAcrossSpaces 49 = .ok (.if_icmp .ne 15, 3) := by decide +kernel
theorem d_ruleAcrossSpaces_52 : decode b_ruleAcrossSpaces 52 = .ok (.iload_n 1, 1) := by decide +kernel
theorem d_ruleAcrossSpaces_53 : decode b_ruleAcrossSpaces 53 = .ok (.bipush 10, 2) := by decide +kernel
theorem d_ruleAcrossSpaces_55 : decode b_ruleAcrossSpaces 55 = .ok (.if_icmp .ne 9, 3) := by decide +kernel
theorem d_ruleAcrossSpaces_58 : decode b_ruleAcrossSpaces 58 = .ok (.sipush 170, 3) := by decide +kernel
theorem d_ruleAcrossSpaces_61 : decode b_ruleAcrossSpaces 61 = .ok (.goto 4, 3) := by decide +kernel
theorem d_ruleAcrossSpaces_64 : decode b_ruleAcrossSpaces 64 = .ok (.iconst 0, 1) := by decide +kernel
theorem d_ruleAcrossSpaces_65 : decode b_ruleAcrossSpaces 65 = .ok (.ireturn, 1) := by decide +kernel
theorem d_ruleOfNumbers_0 : decode b_ruleOfNumbers 0 = .ok (.iload_n 0, 1) := by decide +kernel
theorem d_ruleOfNumbers_1 : decode b_ruleOfNumbers 1 = .ok (.ldc2_w 211, 3) := by decide +kernel
theorem d_ruleOfNumbers_4 : decode b_ruleOfNumbers 4 = .ok (.invokestatic 130, 3) := by decide +kernel
theorem d_ruleOfNumbers_7 : decode b_ruleOfNumbers 7 = .ok (.ifCond .eq 9, 3) := by decide +kernel
theorem d_ruleOfNumbers_10 : decode b_ruleOfNumbers 10 = .ok (.iload_n 1, 1) := by decide +kernel
theorem d_ruleOfNumbers_11 : decode b_ruleOfNumbers 11 = .ok (.bipush 23, 2) := by decide +kernel
theorem d_ruleOfNumbers_13 : decode b_ruleOfNumbers 13 = .ok (.if_icmp .eq 19, 3) := by decide +kernel
theorem d_ruleOfNumbers_16 : decode b_ruleOfNumbers 16 = .ok (.iload_n 0, 1) := by decide +kernel
theorem d_ruleOfNumbers_17 : decode b_ruleOfNumbers 17 = .ok (.bipush 23, 2) := by decide +kernel
theorem d_ruleOfNumbers_19 : decode b_ruleOfNumbers 19 = .ok (.if_icmp .ne 17, 3) := by decide +kernel
theorem d_ruleOfNumbers_22 : decode b_ruleOfNumbers 22 = .ok (.iload_n 1, 1) := by decide +kernel
theorem d_ruleOfNumbers_23 : decode b_ruleOfNumbers 23 = .ok (.ldc2_w 211, 3) := by decide +kernel
theorem d_ruleOfNumbers_26 : decode b_ruleOfNumbers 26 = .ok (.invokestatic 130, 3) := by decide +kernel
theorem d_ruleOfNumbers_29 : decode b_ruleOfNumbers 29 = .ok (.ifCond .eq 7, 3) := by decide +kernel
theorem d_ruleOfNumbers_32 : decode b_ruleOfNumbers 32 = .ok (.sipush 230, 3) := by decide +kernel
theorem d_ruleOfNumbers_35 : decode b_ruleOfNumbers 35 = .ok (.ireturn, 1) := by decide +kernel
theorem d_ruleOfNumbers_36 : decode b_ruleOfNumbers 36 = .ok (.iload_n 0, 1) := by decide +kernel
theorem d_ruleOfNumbers_37 : decode b_ruleOfNumbers 37 = .ok (.bipush 25, 2) := by decide +kernel
theorem d_ruleOfNumbers_39 : decode b_ruleOfNumbers 39 = .ok (.if_icmp .ne 13, 3) := by decide +kernel
theorem d_ruleOfNumbers_42 : decode b_ruleOfNumbers 42 = .ok (.iload_n 1, 1) := by decide +kernel
theorem d_ruleOfNumbers_43 : decode b_ruleOfNumbers 43 = .ok (.ldc2_w 213, 3) := by decide +kernel
theorem d_ruleOfNumbers_46 : decode b_ruleOfNumbers 46 = .ok (.invokestatic 130, 3) := by decide +kernel
theorem d_ruleOfNumbers_49 : decode b_ruleOfNumbers 49 = .ok (.ifCond .ne 19, 3) := by decide +kernel
theorem d_ruleOfNumbers_52 : decode b_ruleOfNumbers 52 = .ok (.iload_n 0, 1) := by decide +kernel
theorem d_ruleOfNumbers_53 : decode b_ruleOfNumbers 53 = .ok (.ldc2_w 213, 3) := by decide +kernel
theorem d_ruleOfNumbers_56 : decode b_ruleOfNumbers 56 = .ok (.invokestatic 130, 3) := by decide +kernel
theorem d_ruleOfNumbers_59 : decode b_ruleOfNumbers 59 = .ok (.ifCond .eq 13, 3) := by decide +kernel
theorem d_ruleOfNumbers_62 : decode b_ruleOfNumbers 62 = .ok (.iload_n 1, 1) := by decide +kernel
theorem d_ruleOfNumbers_63 : decode b_ruleOfNumbers 63 = .ok (.bipush 24, 2) := by decide +kernel
theorem d_ruleOfNumbers_65 : decode b_ruleOfNumbers 65 = .ok (.if_icmp .ne 7, 3) := by decide +kernel
theorem d_ruleOfNumbers_68 : decode b_ruleOfNumbers 68 = .ok (.sipush 231, 3) := by decide +kernel
theorem d_ruleOfNumbers_71 : decode b_ruleOfNumbers 71 = .ok (.ireturn, 1) := by decide +kernel
theorem d_ruleOfNumbers_72 : decode b_ruleOfNumbers 72 = .ok (.iload_n 0, 1) := by decide +kernel
theorem d_ruleOfNumbers_73 : decode b_ruleOfNumbers 73 = .ok (.ldc2_w 215, 3) := by decide +kernel
theorem d_ruleOfNumbers_76 : decode b_ruleOfNumbers 76 = .ok (.invokestatic 130, 3) := by decide +kernel
theorem d_ruleOfNumbers_79 : decode b_ruleOfNumbers 79 = .ok (.ifCond .eq 13, 3) := by decide +kernel
theorem d_ruleOfNumbers_82 : decode b_ruleOfNumbers 82 = .ok (.iload_n 1, 1) := by decide +kernel
theorem d_ruleOfNumbers_83 : decode b_ruleOfNumbers 83 = .ok (.ldc2_w 211, 3) := by decide +kernel
theorem d_ruleOfNumbers_86 : decode b_ruleOfNumbers 86 = .ok (.invokestatic 130, 3) := by decide +kernel
theorem d_ruleOfNumbers_89 : decode b_ruleOfNumbers 89 = .ok (.ifCond .ne 23, 3) := by decide +kernel
theorem d_ruleOfNumbers_92 : decode b_ruleOfNumbers 92 = .ok (.iload_n 0, 1) := by decide +kernel
theorem d_ruleOfNumbers_93 : decode b_ruleOfNumbers 93 = .ok (.ldc2_w 211, 3) := by decide +kernel
theorem d_ruleOfNumbers_96 : decode b_ruleOfNumbers 96 = .ok (.invokestatic 130, 3) := by decide +kernel
theorem d_ruleOfNumbers_99 : decode b_ruleOfNumbers 99 = .ok (.ifCond .eq 17, 3) := by decide +kernel
theorem d_ruleOfNumbers_102 : decode b_ruleOfNumbers 102 = .ok (.iload_n 1, 1) := by decide +kernel
theorem d_ruleOfNumbers_103 : decode b_ruleOfNumbers 103 = .ok (.ldc2_w 215, 3) := by decide +kernel
theorem d_ruleOfNumbers_106 : decode b_ruleOfNumbers 106 = .ok (.invokestatic 130, 3) := by decide +kernel
theorem d_ruleOfNumbers_109 : decode b_ruleOfNumbers 109 = .ok (.ifCond .eq 7, 3) := by decide +kernel
theorem d_ruleOfNumbers_112 : decode b_ruleOfNumbers 112 = .ok (.sipush 240, 3) := by decide +kernel
theorem d_ruleOfNumbers_115 : decode b_ruleOfNumbers 115 = .ok (.ireturn, 1) := by decide +kernel
theorem d_ruleOfNumbers_116 : decode b_ruleOfNumbers 116 = .ok (.iload_n 0, 1) := by decide +kernel
theorem d_ruleOfNumbers_117 : decode b_ruleOfNumbers 117 = .ok (.ldc2_w 217, 3) := by decide +kernel
theorem d_ruleOfNumbers_120 : decode b_ruleOfNumbers 120 = .ok (.invokestatic 130, 3) := by decide +kernel
theorem d_ruleOfNumbers_123 : decode b_ruleOfNumbers 123 = .ok (.ifCond .eq 17, 3) := by decide +kernel
theorem d_ruleOfNumbers_126 : decode b_ruleOfNumbers 126 = .ok (.iload_n 1, 1) := by decide +kernel
theorem d_ruleOfNumbers_127 : decode b_ruleOfNumbers 127 = .ok (.ldc2_w 215, 3) := by decide +kernel
theorem d_ruleOfNumbers_130 : decode b_ruleOfNumbers 130 = .ok (.invokestatic 130, 3) := by decide +kernel
theorem d_ruleOfNumbers_133 : decode b_ruleOfNumbers 133 = .ok (.ifCond .eq 7, 3) := by decide +kernel
theorem d_ruleOfNumbers_136 : decode b_ruleOfNumbers 136 = .ok (.sipush 250, 3) := by decide +kernel
theorem d_ruleOfNumbers_139 : decode b_ruleOfNumbers 139 = .ok (.ireturn, 1) := by decide +kernel
theorem d_ruleOfNumbers_140 : decode b_ruleOfNumbers 140 = .ok (.iload_n 0, 1) := by decide +kernel
theorem d_ruleOfNumbers_141 : decode b_ruleOfNumbers 141 = .ok (.ldc2_w 215, 3) := by decide +kernel
theorem d_ruleOfNumbers_144 : decode b_ruleOfNumbers 144 = .ok (.invokestatic 130, 3) := by decide +kernel
theorem d_ruleOfNumbers_147 : decode b_ruleOfNumbers 147 = .ok (.ifCond .eq 19, 3) := by decide +kernel
theorem d_ruleOfNumbers_150 : decode b_ruleOfNumbers 150 = .ok (.iload_n 1, 1) := by decide +kernel
theorem d_ruleOfNumbers_151 : decode b_ruleOfNumbers 151 = .ok (.bipush 20, 2) := by decide +kernel
theorem d_ruleOfNumbers_153 : decode b_ruleOfNumbers 153 = .ok (.if_icmp .eq 9, 3) := by decide +kernel
theorem d_ruleOfNumbers_156 : decode b_ruleOfNumbers 156 = .ok (.iload_n 1, 1) := by decide +kernel
theorem d_ruleOfNumbers_157 : decode b_ruleOfNumbers 157 = .ok (.bipush 23, 2) := by decide +kernel
theorem d_ruleOfNumbers_159 : decode b_ruleOfNumbers 159 = .ok (.if_icmp .ne 7, 3) := by decide +kernel
theorem d_ruleOfNumbers_162 : decode b_ruleOfNumbers 162 = .ok (.sipush 250, 3) := by decide +kernel
theorem d_ruleOfNumbers_165 : decode b_ruleOfNumbers 165 = .ok (.ireturn, 1) := by decide +kernel
theorem d_ruleOfNumbers_166 : decode b_ruleOfNumbers 166 = .ok (.iload_n 0, 1) := by decide +kernel
theorem d_ruleOfNumbers_167 : decode b_ruleOfNumbers 167 = .ok (.ldc2_w 219, 3) := by decide +kernel
theorem d_ruleOfNumbers_170 : decode b_ruleOfNumbers 170 = .ok (.invokestatic 130, 3) := by decide +kernel
theorem d_ruleOfNumbers_173 : decode b_ruleOfNumbers 173 = .ok (.ifCond .eq 15, 3) := by decide +kernel
theorem d_ruleOfNumbers_176 : decode b_ruleOfNumbers 176 = .ok (.iload_n 1, 1) := by decide +kernel
theorem d_ruleOfNumbers_177 : decode b_ruleOfNumbers 177 = .ok (.bipush 23, 2) := by decide +kernel
theorem d_ruleOfNumbers_179 : decode b_ruleOfNumbers 179 = .ok (.if_icmp .ne 9, 3) := by decide +kernel
theorem d_ruleOfNumbers_182 : decode b_ruleOfNumbers 182 = .ok (.sipush 250, 3) := by decide +kernel
theorem d_ruleOfNumbers_185 : decode b_ruleOfNumbers 185 = .ok (.goto 4, 3) := by decide +kernel
theorem d_ruleOfNumbers_188 : decode b_ruleOfNumbers 188 = .ok (.iconst 0, 1) := by decide +kernel
theorem d_ruleOfNumbers_189 : decode b_ruleOfNumbers 189 = .ok (.ireturn, 1) := by decide +kernel
theorem d_ruleOfWords_0 : decode b_ruleOfWords 0 = .ok (.iload_n 0, 1) := by decide +kernel
theorem d_ruleOfWords_1 : decode b_ruleOfWords 1 = .ok (.bipush 34, 2) := by decide +kernel
theorem d_ruleOfWords_3 : decode b_ruleOfWords 3 = .ok (.if_icmp .ne 31, 3) := by decide +kernel
theorem d_ruleOfWords_6 : decode b_ruleOfWords 6 = .ok (.iload_n 1, 1) := by decide +kernel
theorem d_ruleOfWords_7 : decode b_ruleOfWords 7 = .ok (.bipush 34, 2) := by decide +kernel
theorem d_ruleOfWords_9 : decode b_ruleOfWords 9 = .ok (.if_icmp .eq 21, 3) := by decide +kernel
theorem d_ruleOfWords_12 : decode b_ruleOfWords 12 = .ok (.iload_n 1, 1) := by decide +kernel
theorem d_ruleOfWords_13 : decode b_ruleOfWords 13 = .ok (.bipush 35, 2) := by decide +kernel
theorem d_ruleOfWords_15 : decode b_ruleOfWords 15 = .ok (.if_icmp .eq 15, 3) := by decide +kernel
theorem d_ruleOfWords_18 : decode b_ruleOfWords 18 = .ok (.iload_n 1, 1) := by decide +kernel
theorem d_ruleOfWords_19 : decode b_ruleOfWords 19 = .ok (.bipush 32, 2) := by decide +kernel
theorem d_ruleOfWords_21 : decode b_ruleOfWords 21 = .ok (.if_icmp .eq 9, 3) := by decide +kernel
theorem d_ruleOfWords_24 : decode b_ruleOfWords 24 = .ok (.iload_n 1, 1) := by decide +kernel
theorem d_ruleOfWords_25 : decode b_ruleOfWords 25 = .ok (.bipush 33, 2) := by decide +kernel
theorem d_ruleOfWords_27 : decode b_ruleOfWords 27 = .ok (.if_icmp .ne 7, 3) := by decide +kernel
theorem d_ruleOfWords_30 : decode b_ruleOfWords 30 = .ok (.sipush 260, 3) := by decide +kernel
theorem d_ruleOfWords_33 : decode b_ruleOfWords 33 = .ok (.ireturn, 1) := by decide +kernel
theorem d_ruleOfWords_34 : decode b_ruleOfWords 34 = .ok (.iload_n 0, 1) := by decide +kernel
theorem d_ruleOfWords_35 : decode b_ruleOfWords 35 = .ok (.bipush 35, 2) := by decide +kernel
theorem d_ruleOfWords_37 : decode b_ruleOfWords 37 = .ok (.if_icmp .eq 9, 3) := by decide +kernel
theorem d_ruleOfWords_40 : decode b_ruleOfWords 40 = .ok (.iload_n 0, 1) := by decide +kernel
theorem d_ruleOfWords_41 : decode b_ruleOfWords 41 = .ok (.bipush 32, 2) := by decide +kernel
theorem d_ruleOfWords_43 : decode b_ruleOfWords 43 = .ok (.if_icmp .ne 19, 3) := by decide +kernel
theorem d_ruleOfWords_46 : decode b_ruleOfWords 46 = .ok (.iload_n 1, 1) := by decide +kernel
theorem d_ruleOfWords_47 : decode b_ruleOfWords 47 = .ok (.bipush 35, 2) := by decide +kernel
theorem d_ruleOfWords_49 : decode b_ruleOfWords 49 = .ok (.if_icmp .eq 9, 3) := by decide +kernel
theorem d_ruleOfWords_52 : decode b_ruleOfWords 52 = .ok (.iload_n 1, 1) := by decide +kernel
theorem d_ruleOfWords_53 : decode b_ruleOfWords 53 = .ok (.bipush 36, 2) := by decide +kernel
theorem d_ruleOfWords_55 : decode b_ruleOfWords 55 = .ok (.if_icmp .ne 7, 3) := by decide +kernel
theorem d_ruleOfWords_58 : decode b_ruleOfWords 58 = .ok (.sipush 260, 3) := by decide +kernel
theorem d_ruleOfWords_61 : decode b_ruleOfWords 61 = .ok (.ireturn, 1) := by decide +kernel
theorem d_ruleOfWords_62 : decode b_ruleOfWords 62 = .ok (.iload_n 0, 1) := by decide +kernel
theorem d_ruleOfWords_63 : decode b_ruleOfWords 63 = .ok (.bipush 36, 2) := by decide +kernel
theorem d_ruleOfWords_65 : decode b_ruleOfWords 65 = .ok (.if_icmp .eq 9, 3) := by decide +kernel
theorem d_ruleOfWords_68 : decode b_ruleOfWords 68 = .ok (.iload_n 0, 1) := by decide +kernel
theorem d_ruleOfWords_69 : decode b_ruleOfWords 69 = .ok (.bipush 33, 2) := by decide +kernel
theorem d_ruleOfWords_71 : decode b_ruleOfWords 71 = .ok (.if_icmp .ne 13, 3) := by decide +kernel
theorem d_ruleOfWords_74 : decode b_ruleOfWords 74 = .ok (.iload_n 1, 1) := by decide +kernel
theorem d_ruleOfWords_75 : decode b_ruleOfWords 75 = .ok (.bipush 36, 2) := by decide +kernel
theorem d_ruleOfWords_77 : decode b_ruleOfWords 77 = .ok (.if_icmp .ne 7, 3) := by decide +kernel
theorem d_ruleOfWords_80 : decode b_ruleOfWords 80 = .ok (.sipush 260, 3) := by decide +kernel
theorem d_ruleOfWords_83 : decode b_ruleOfWords 83 = .ok (.ireturn, 1) := by decide +kernel
theorem d_ruleOfWords_84 : decode b_ruleOfWords 84 = .ok (.iload_n 0, 1) := by decide +kernel
theorem d_ruleOfWords_85 : decode b_ruleOfWords 85 = .ok (.ldc2_w 221, 3) := by decide +kernel
theorem d_ruleOfWords_88 : decode b_ruleOfWords 88 = .ok (.invokestatic 130, 3) := by decide +kernel
theorem d_ruleOfWords_91 : decode b_ruleOfWords 91 = .ok (.ifCond .eq 9, 3) := by decide +kernel
theorem d_ruleOfWords_94 : decode b_ruleOfWords 94 = .ok (.iload_n 1, 1) := by decide +kernel
theorem d_ruleOfWords_95 : decode b_ruleOfWords 95 = .ok (.bipush 24, 2) := by decide +kernel
theorem d_ruleOfWords_97 : decode b_ruleOfWords 97 = .ok (.if_icmp .eq 19, 3) := by decide +kernel
theorem d_ruleOfWords_100 : decode b_ruleOfWords 100 = .ok (.iload_n 0, 1) := by decide +kernel
theorem d_ruleOfWords_101 : decode b_ruleOfWords 101 = .ok (.bipush 25, 2) := by decide +kernel
theorem d_ruleOfWords_103 : decode b_ruleOfWords 103 = .ok (.if_icmp .ne 17, 3) := by decide +kernel
theorem d_ruleOfWords_106 : decode b_ruleOfWords 106 = .ok (.iload_n 1, 1) := by decide +kernel
theorem d_ruleOfWords_107 : decode b_ruleOfWords 107 = .ok (.ldc2_w 221, 3) := by decide +kernel
theorem d_ruleOfWords_110 : decode b_ruleOfWords 110 = .ok (.invokestatic 130, 3) := by decide +kernel
theorem d_ruleOfWords_113 : decode b_ruleOfWords 113 = .ok (.ifCond .eq 7, 3) := by decide +kernel
theorem d_ruleOfWords_116 : decode b_ruleOfWords 116 = .ok (.sipush 270, 3) := by decide +kernel
theorem d_ruleOfWords_119 : decode b_ruleOfWords 119 = .ok (.ireturn, 1) := by decide +kernel
theorem d_ruleOfWords_120 : decode b_ruleOfWords 120 = .ok (.iload_n 0, 1) := by decide +kernel
theorem d_ruleOfWords_121 : decode b_ruleOfWords 121 = .ok (.ldc2_w 211, 3) := by decide +kernel
theorem d_ruleOfWords_124 : decode b_ruleOfWords 124 = .ok (.invokestatic 130, 3) := by decide +kernel
theorem d_ruleOfWords_127 : decode b_ruleOfWords 127 = .ok (.ifCond .eq 17, 3) := by decide +kernel
theorem d_ruleOfWords_130 : decode b_ruleOfWords 130 = .ok (.iload_n 1, 1) := by decide +kernel
theorem d_ruleOfWords_131 : decode b_ruleOfWords 131 = .ok (.ldc2_w 211, 3) := by decide +kernel
theorem d_ruleOfWords_134 : decode b_ruleOfWords 134 = .ok (.invokestatic 130, 3) := by decide +kernel
theorem d_ruleOfWords_137 : decode b_ruleOfWords 137 = .ok (.ifCond .eq 7, 3) := by decide +kernel
theorem d_ruleOfWords_140 : decode b_ruleOfWords 140 = .ok (.sipush 280, 3) := by decide +kernel
theorem d_ruleOfWords_143 : decode b_ruleOfWords 143 = .ok (.ireturn, 1) := by decide +kernel
theorem d_ruleOfWords_144 : decode b_ruleOfWords 144 = .ok (.iload_n 0, 1) := by decide +kernel
theorem d_ruleOfWords_145 : decode b_ruleOfWords 145 = .ok (.bipush 22, 2) := by decide +kernel
theorem d_ruleOfWords_147 : decode b_ruleOfWords 147 = .ok (.if_icmp .ne 19, 3) := by decide +kernel
theorem d_ruleOfWords_150 : decode b_ruleOfWords 150 = .ok (.iload_n 1, 1) := by decide +kernel
theorem d_ruleOfWords_151 : decode b_ruleOfWords 151 = .ok (.ldc2_w 211, 3) := by decide +kernel
theorem d_ruleOfWords_154 : decode b_ruleOfWords 154 = .ok (.invokestatic 130, 3) := by decide +kernel
theorem d_ruleOfWords_157 : decode b_ruleOfWords 157 = .ok (.ifCond .eq 9, 3) := by decide +kernel
theorem d_ruleOfWords_160 : decode b_ruleOfWords 160 = .ok (.sipush 290, 3) := by decide +kernel
theorem d_ruleOfWords_163 : decode b_ruleOfWords 163 = .ok (.goto 4, 3) := by decide +kernel
theorem d_ruleOfWords_166 : decode b_ruleOfWords 166 = .ok (.iconst 0, 1) := by decide +kernel
theorem d_ruleOfWords_167 : decode b_ruleOfWords 167 = .ok (.ireturn, 1) := by decide +kernel
theorem d_rIsFull_0 : decode b_rIsFull 0 = .ok (.aload_n 0, 1) := by decide +kernel
theorem d_rIsFull_1 : decode b_rIsFull 1 = .ok (.getfield 19, 3) := by decide +kernel
theorem d_rIsFull_4 : decode b_rIsFull 4 = .ok (.aload_n 0, 1) := by decide +kernel
theorem d_rIsFull_5 : decode b_rIsFull 5 = .ok (.getfield 7, 3) := by decide +kernel
theorem d_rIsFull_8 : decode b_rIsFull 8 = .ok (.arraylength, 1) := by decide +kernel
theorem d_rIsFull_9 : decode b_rIsFull 9 = .ok (.if_icmp .lt 7, 3) := by decide +kernel
theorem d_rIsFull_12 : decode b_rIsFull 12 = .ok (.iconst 1, 1) := by decide +kernel
theorem d_rIsFull_13 : decode b_rIsFull 13 = .ok (.goto 4, 3) := by decide +kernel
theorem d_rIsFull_16 : decode b_rIsFull 16 = .ok (.iconst 0, 1) := by decide +kernel
theorem d_rIsFull_17 : decode b_rIsFull 17 = .ok (.ireturn, 1) := by decide +kernel
theorem d_rTell_0 : decode b_rTell 0 = .ok (.aload_n 0, 1) := by decide +kernel
theorem d_rTell_1 : decode b_rTell 1 = .ok (.invokevirtual 23, 3) := by decide +kernel
theorem d_rTell_4 : decode b_rTell 4 = .ok (.ifCond .eq 4, 3) := by decide +kernel
theorem d_rTell_7 : decode b_rTell 7 = .ok (.return_, 1) := by decide +kernel
theorem d_rTell_8 : decode b_rTell 8 = .ok (.aload_n 0, 1) := by decide +kernel
theorem d_rTell_9 : decode b_rTell 9 = .ok (.getfield 7, 3) := by decide +kernel
theorem d_rTell_12 : decode b_rTell 12 = .ok (.aload_n 0, 1) := by decide +kernel
theorem d_rTell_13 : decode b_rTell 13 = .ok (.getfield 19, 3) := by decide +kernel
theorem d_rTell_16 : decode b_rTell 16 = .ok (.iload_n 1, 1) := by decide +kernel
theorem d_rTell_17 : decode b_rTell 17 = .ok (.iastore, 1) := by decide +kernel
theorem d_rTell_18 : decode b_rTell 18 = .ok (.aload_n 0, 1) := by decide +kernel
theorem d_rTell_19 : decode b_rTell 19 = .ok (.getfield 13, 3) := by decide +kernel
theorem d_rTell_22 : decode b_rTell 22 = .ok (.aload_n 0, 1) := by decide +kernel
theorem d_rTell_23 : decode b_rTell 23 = .ok (.getfield 19, 3) := by decide +kernel
theorem d_rTell_26 : decode b_rTell 26 = .ok (.iload_n 2, 1) := by decide +kernel
theorem d_rTell_27 : decode b_rTell 27 = .ok (.iastore, 1) := by decide +kernel
theorem d_rTell_28 : decode b_rTell 28 = .ok (.aload_n 0, 1) := by decide +kernel
theorem d_rTell_29 : decode b_rTell 29 = .ok (.getfield 16, 3) := by decide +kernel
theorem d_rTell_32 : decode b_rTell 32 = .ok (.aload_n 0, 1) := by decide +kernel
theorem d_rTell_33 : decode b_rTell 33 = .ok (.getfield 19, 3) := by decide +kernel
theorem d_rTell_36 : decode b_rTell 36 = .ok (.iload_n 3, 1) := by decide +kernel
theorem d_rTell_37 : decode b_rTell 37 = .ok (.iastore, 1) := by decide +kernel
theorem d_rTell_38 : decode b_rTell 38 = .ok (.aload_n 0, 1) := by decide +kernel
theorem d_rTell_39 : decode b_rTell 39 = .ok (.dup, 1) := by decide +kernel
theorem d_rTell_40 : decode b_rTell 40 = .ok (.getfield 19, 3) := by decide +kernel
theorem d_rTell_43 : decode b_rTell 43 = .ok (.iconst 1, 1) := by decide +kernel
theorem d_rTell_44 : decode b_rTell 44 = .ok (.iadd, 1) := by decide +kernel
theorem d_rTell_45 : decode b_rTell 45 = .ok (.putfield 19, 3) := by decide +kernel
theorem d_rTell_48 : decode b_rTell 48 = .ok (.return_, 1) := by decide +kernel
theorem d_rValueOf_0 : decode b_rValueOf 0 = .ok (.aload_n 0, 1) := by decide +kernel
theorem d_rValueOf_1 : decode b_rValueOf 1 = .ok (.getfield 19, 3) := by decide +kernel
theorem d_rValueOf_4 : decode b_rValueOf 4 = .ok (.iconst 1, 1) := by decide +kernel
theorem d_rValueOf_5 : decode b_rValueOf 5 = .ok (.isub, 1) := by decide +kernel
theorem d_rValueOf_6 : decode b_rValueOf 6 = .ok (.istore_n 3, 1) := by decide +kernel
theorem d_rValueOf_7 : decode b_rValueOf 7 = .ok (.iload_n 3, 1) := by decide +kernel
theorem d_rValueOf_8 : decode b_rValueOf 8 = .ok (.ifCond .lt 36, 3) := by decide +kernel
theorem d_rValueOf_11 : decode b_rValueOf 11 = .ok (.aload_n 0, 1) := by decide +kernel
theorem d_rValueOf_12 : decode b_rValueOf 12 = .ok (.getfield 7, 3) := by decide +kernel
theorem d_rValueOf_15 : decode b_rValueOf 15 = .ok (.iload_n 3, 1) := by decide +kernel
theorem d_rValueOf_16 : decode b_rValueOf 16 = .ok (.iaload, 1) := by decide +kernel
theorem d_rValueOf_17 : decode b_rValueOf 17 = .ok (.iload_n 1, 1) := by decide +kernel
theorem d_rValueOf_18 : decode b_rValueOf 18 = .ok (.if_icmp .gt 20, 3) := by decide +kernel
theorem d_rValueOf_21 : decode b_rValueOf 21 = .ok (.iload_n 1, 1) := by decide +kernel
theorem d_rValueOf_22 : decode b_rValueOf 22 = .ok (.aload_n 0, 1) := by decide +kernel
theorem d_rValueOf_23 : decode b_rValueOf 23 = .ok (.getfield 13, 3) := by decide +kernel
theorem d_rValueOf_26 : decode b_rValueOf 26 = .ok (.iload_n 3, 1) := by decide +kernel
theorem d_rValueOf_27 : decode b_rValueOf 27 = .ok (.iaload, 1) := by decide +kernel
theorem d_rValueOf_28 : decode b_rValueOf 28 = .ok (.if_icmp .gt 10, 3) := by decide +kernel
theorem d_rValueOf_31 : decode b_rValueOf 31 = .ok (.aload_n 0, 1) := by decide +kernel
theorem d_rValueOf_32 : decode b_rValueOf 32 = .ok (.getfield 16, 3) := by decide +kernel
theorem d_rValueOf_35 : decode b_rValueOf 35 = .ok (.iload_n 3, 1) := by decide +kernel
theorem d_rValueOf_36 : decode b_rValueOf 36 = .ok (.iaload, 1) := by decide +kernel
theorem d_rValueOf_37 : decode b_rValueOf 37 = .ok (.ireturn, 1) := by decide +kernel
theorem d_rValueOf_38 : decode b_rValueOf 38 = .ok (.iinc 3 (-1), 3) := by decide +kernel
theorem d_rValueOf_41 : decode b_rValueOf 41 = .ok (.goto (-34), 3) := by decide +kernel
theorem d_rValueOf_44 : decode b_rValueOf 44 = .ok (.iload_n 2, 1) := by decide +kernel
theorem d_rValueOf_45 : decode b_rValueOf 45 = .ok (.ireturn, 1) := by decide +kernel
theorem d_isMarked_0 : decode b_isMarked 0 = .ok (.aload_n 0, 1) := by decide +kernel
theorem d_isMarked_1 : decode b_isMarked 1 = .ok (.iload_n 1, 1) := by decide +kernel
theorem d_isMarked_2 : decode b_isMarked 2 = .ok (.iconst 0, 1) := by decide +kernel
theorem d_isMarked_3 : decode b_isMarked 3 = .ok (.invokevirtual 144, 3) := by decide +kernel
theorem d_isMarked_6 : decode b_isMarked 6 = .ok (.iconst 1, 1) := by decide +kernel
theorem d_isMarked_7 : decode b_isMarked 7 = .ok (.if_icmp .ne 7, 3) := by decide +kernel
theorem d_isMarked_10 : decode b_isMarked 10 = .ok (.iconst 1, 1) := by decide +kernel
theorem d_isMarked_11 : decode b_isMarked 11 = .ok (.goto 4, 3) := by decide +kernel
theorem d_isMarked_14 : decode b_isMarked 14 = .ok (.iconst 0, 1) := by decide +kernel
theorem d_isMarked_15 : decode b_isMarked 15 = .ok (.ireturn, 1) := by decide +kernel
theorem d_bStart_0 : decode b_bStart 0 = .ok (.aload_n 0, 1) := by decide +kernel
theorem d_bStart_1 : decode b_bStart 1 = .ok (.iconst (-1), 1) := by decide +kernel
