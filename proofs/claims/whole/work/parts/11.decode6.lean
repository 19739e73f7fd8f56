theorem d_mFlags_4 : decode b_mFlags 4 = .ok (.iload_n 3, 1) := by decide +kernel
theorem d_mFlags_5 : decode b_mFlags 5 = .ok (.ifCond .lt 27, 3) := by decide +kernel
theorem d_mFlags_8 : decode b_mFlags 8 = .ok (.aload_n 0, 1) := by decide +kernel
theorem d_mFlags_9 : decode b_mFlags 9 = .ok (.iload_n 3, 1) := by decide +kernel
theorem d_mFlags_10 : decode b_mFlags 10 = .ok (.invokevirtual 90, 3) := by decide +kernel
theorem d_mFlags_13 : decode b_mFlags 13 = .ok (.bipush 37, 2) := by decide +kernel
theorem d_mFlags_15 : decode b_mFlags 15 = .ok (.if_icmp .ne 17, 3) := by decide +kernel
theorem d_mFlags_18 : decode b_mFlags 18 = .ok (.iinc 2 1, 3) := by decide +kernel
theorem d_mFlags_21 : decode b_mFlags 21 = .ok (.aload_n 0, 1) := by decide +kernel
theorem d_mFlags_22 : decode b_mFlags 22 = .ok (.iload_n 3, 1) := by decide +kernel
theorem d_mFlags_23 : decode b_mFlags 23 = .ok (.iconst 1, 1) := by decide +kernel
theorem d_mFlags_24 : decode b_mFlags 24 = .ok (.isub, 1) := by decide +kernel
theorem d_mFlags_25 : decode b_mFlags 25 = .ok (.invokevirtual 87, 3) := by decide +kernel
theorem d_mFlags_28 : decode b_mFlags 28 = .ok (.istore_n 3, 1) := by decide +kernel
theorem d_mFlags_29 : decode b_mFlags 29 = .ok (.goto (-25), 3) := by decide +kernel
theorem d_mFlags_32 : decode b_mFlags 32 = .ok (.iload_n 2, 1) := by decide +kernel
theorem d_mFlags_33 : decode b_mFlags 33 = .ok (.ireturn, 1) := by decide +kernel
theorem d_mMiddle_0 : decode b_mMiddle 0 = .ok (.iload_n 2, 1) := by decide +kernel
theorem d_mMiddle_1 : decode b_mMiddle 1 = .ok (.bipush 6, 2) := by decide +kernel
theorem d_mMiddle_3 : decode b_mMiddle 3 = .ok (.if_icmp .eq 9, 3) := by decide +kernel
theorem d_mMiddle_6 : decode b_mMiddle 6 = .ok (.iload_n 3, 1) := by decide +kernel
theorem d_mMiddle_7 : decode b_mMiddle 7 = .ok (.bipush 6, 2) := by decide +kernel
theorem d_mMiddle_9 : decode b_mMiddle 9 = .ok (.if_icmp .ne 11, 3) := by decide +kernel
theorem d_mMiddle_12 : decode b_mMiddle 12 = .ok (.aload_n 0, 1) := by decide +kernel
theorem d_mMiddle_13 : decode b_mMiddle 13 = .ok (.bipush 110, 2) := by decide +kernel
theorem d_mMiddle_15 : decode b_mMiddle 15 = .ok (.iconst 0, 1) := by decide +kernel
theorem d_mMiddle_16 : decode b_mMiddle 16 = .ok (.invokevirtual 83, 3) := by decide +kernel
theorem d_mMiddle_19 : decode b_mMiddle 19 = .ok (.ireturn, 1) := by decide +kernel
theorem d_mMiddle_20 : decode b_mMiddle 20 = .ok (.iload_n 2, 1) := by decide +kernel
theorem d_mMiddle_21 : decode b_mMiddle 21 = .ok (.bipush 9, 2) := by decide +kernel
theorem d_mMiddle_23 : decode b_mMiddle 23 = .ok (.if_icmp .ne 11, 3) := by decide +kernel
theorem d_mMiddle_26 : decode b_mMiddle 26 = .ok (.aload_n 0, 1) := by decide +kernel
theorem d_mMiddle_27 : decode b_mMiddle 27 = .ok (.bipush 120, 2) := by decide +kernel
theorem d_mMiddle_29 : decode b_mMiddle 29 = .ok (.iconst 0, 1) := by decide +kernel
theorem d_mMiddle_30 : decode b_mMiddle 30 = .ok (.invokevirtual 83, 3) := by decide +kernel
theorem d_mMiddle_33 : decode b_mMiddle 33 = .ok (.ireturn, 1) := by decide +kernel
theorem d_mMiddle_34 : decode b_mMiddle 34 = .ok (.iload_n 3, 1) := by decide +kernel
theorem d_mMiddle_35 : decode b_mMiddle 35 = .ok (.bipush 9, 2) := by decide +kernel
theorem d_mMiddle_37 : decode b_mMiddle 37 = .ok (.if_icmp .ne 28, 3) := by decide +kernel
theorem d_mMiddle_40 : decode b_mMiddle 40 = .ok (.iload_n 2, 1) := by decide +kernel
theorem d_mMiddle_41 : decode b_mMiddle 41 = .ok (.iconst 4, 1) := by decide +kernel
theorem d_mMiddle_42 : decode b_mMiddle 42 = .ok (.if_icmp .eq 23, 3) := by decide +kernel
theorem d_mMiddle_45 : decode b_mMiddle 45 = .ok (.iload_n 2, 1) := by decide +kernel
theorem d_mMiddle_46 : decode b_mMiddle 46 = .ok (.bipush 11, 2) := by decide +kernel
theorem d_mMiddle_48 : decode b_mMiddle 48 = .ok (.if_icmp .eq 17, 3) := by decide +kernel
theorem d_mMiddle_51 : decode b_mMiddle 51 = .ok (.iload_n 2, 1) := by decide +kernel
theorem d_mMiddle_52 : decode b_mMiddle 52 = .ok (.bipush 13, 2) := by decide +kernel
theorem d_mMiddle_54 : decode b_mMiddle 54 = .ok (.if_icmp .eq 11, 3) := by decide +kernel
theorem d_mMiddle_57 : decode b_mMiddle 57 = .ok (.aload_n 0, 1) := by decide +kernel
theorem d_mMiddle_58 : decode b_mMiddle 58 = .ok (.bipush 121, 2) := by decide +kernel
theorem d_mMiddle_60 : decode b_mMiddle 60 = .ok (.iconst 0, 1) := by decide +kernel
theorem d_mMiddle_61 : decode b_mMiddle 61 = .ok (.invokevirtual 83, 3) := by decide +kernel
theorem d_mMiddle_64 : decode b_mMiddle 64 = .ok (.ireturn, 1) := by decide +kernel
theorem d_mMiddle_65 : decode b_mMiddle 65 = .ok (.iload_n 3, 1) := by decide +kernel
theorem d_mMiddle_66 : decode b_mMiddle 66 = .ok (.bipush 15, 2) := by decide +kernel
theorem d_mMiddle_68 : decode b_mMiddle 68 = .ok (.if_icmp .eq 27, 3) := by decide +kernel
theorem d_mMiddle_71 : decode b_mMiddle 71 = .ok (.iload_n 3, 1) := by decide +kernel
theorem d_mMiddle_72 : decode b_mMiddle 72 = .ok (.bipush 16, 2) := by decide +kernel
theorem d_mMiddle_74 : decode b_mMiddle 74 = .ok (.if_icmp .eq 21, 3) := by decide +kernel
theorem d_mMiddle_77 : decode b_mMiddle 77 = .ok (.iload_n 3, 1) := by decide +kernel
theorem d_mMiddle_78 : decode b_mMiddle 78 = .ok (.bipush 17, 2) := by decide +kernel
theorem d_mMiddle_80 : decode b_mMiddle 80 = .ok (.if_icmp .eq 15, 3) := by decide +kernel
theorem d_mMiddle_83 : decode b_mMiddle 83 = .ok (.iload_n 3, 1) := by decide +kernel
theorem d_mMiddle_84 : decode b_mMiddle 84 = .ok (.bipush 22, 2) := by decide +kernel
theorem d_mMiddle_86 : decode b_mMiddle 86 = .ok (.if_icmp .eq 9, 3) := by decide +kernel
theorem d_mMiddle_89 : decode b_mMiddle 89 = .ok (.iload_n 3, 1) := by decide +kernel
theorem d_mMiddle_90 : decode b_mMiddle 90 = .ok (.bipush 26, 2) := by decide +kernel
theorem d_mMiddle_92 : decode b_mMiddle 92 = .ok (.if_icmp .ne 12, 3) := by decide +kernel
theorem d_mMiddle_95 : decode b_mMiddle 95 = .ok (.aload_n 0, 1) := by decide +kernel
theorem d_mMiddle_96 : decode b_mMiddle 96 = .ok (.sipush 130, 3) := by decide +kernel
theorem d_mMiddle_99 : decode b_mMiddle 99 = .ok (.iconst 0, 1) := by decide +kernel
theorem d_mMiddle_100 : decode b_mMiddle 100 = .ok (.invokevirtual 83, 3) := by decide +kernel
theorem d_mMiddle_103 : decode b_mMiddle 103 = .ok (.ireturn, 1) := by decide +kernel
theorem d_mMiddle_104 : decode b_mMiddle 104 = .ok (.aload_n 0, 1) := by decide +kernel
theorem d_mMiddle_105 : decode b_mMiddle 105 = .ok (.iload_n 1, 1) := by decide +kernel
theorem d_mMiddle_106 : decode b_mMiddle 106 = .ok (.invokevirtual 93, 3) := by decide +kernel
theorem d_mMiddle_109 : decode b_mMiddle 109 = .ok (.istore 4, 2) := by decide +kernel
theorem d_mMiddle_111 : decode b_mMiddle 111 = .ok (.iload 4, 2) := by decide +kernel
theorem d_mMiddle_113 : decode b_mMiddle 113 = .ok (.bipush 20, 2) := by decide +kernel
theorem d_mMiddle_115 : decode b_mMiddle 115 = .ok (.if_icmp .ne 12, 3) := by decide +kernel
theorem d_mMiddle_118 : decode b_mMiddle 118 = .ok (.aload_n 0, 1) := by decide +kernel
theorem d_mMiddle_119 : decode b_mMiddle 119 = .ok (.sipush 140, 3) := by decide +kernel
theorem d_mMiddle_122 : decode b_mMiddle 122 = .ok (.iconst 0, 1) := by decide +kernel
theorem d_mMiddle_123 : decode b_mMiddle 123 = .ok (.invokevirtual 83, 3) := by decide +kernel
theorem d_mMiddle_126 : decode b_mMiddle 126 = .ok (.ireturn, 1) := by decide +kernel
theorem d_mMiddle_127 : decode b_mMiddle 127 = .ok (.iload 4, 2) := by decide +kernel
theorem d_mMiddle_129 : decode b_mMiddle 129 = .ok (.bipush 21, 2) := by decide +kernel
theorem d_mMiddle_131 : decode b_mMiddle 131 = .ok (.if_icmp .ne 18, 3) := by decide +kernel
theorem d_mMiddle_134 : decode b_mMiddle 134 = .ok (.iload_n 3, 1) := by decide +kernel
theorem d_mMiddle_135 : decode b_mMiddle 135 = .ok (.bipush 20, 2) := by decide +kernel
theorem d_mMiddle_137 : decode b_mMiddle 137 = .ok (.if_icmp .ne 12, 3) := by decide +kernel
theorem d_mMiddle_140 : decode b_mMiddle 140 = .ok (.aload_n 0, 1) := by decide +kernel
theorem d_mMiddle_141 : decode b_mMiddle 141 = .ok (.sipush 150, 3) := by decide +kernel
theorem d_mMiddle_144 : decode b_mMiddle 144 = .ok (.iconst 0, 1) := by decide +kernel
theorem d_mMiddle_145 : decode b_mMiddle 145 = .ok (.invokevirtual 83, 3) := by decide +kernel
theorem d_mMiddle_148 : decode b_mMiddle 148 = .ok (.ireturn, 1) := by decide +kernel
theorem d_mMiddle_149 : decode b_mMiddle 149 = .ok (.iload 4, 2) := by decide +kernel
theorem d_mMiddle_151 : decode b_mMiddle 151 = .ok (.bipush 15, 2) := by decide +kernel
theorem d_mMiddle_153 : decode b_mMiddle 153 = .ok (.if_icmp .eq 10, 3) := by decide +kernel
theorem d_mMiddle_156 : decode b_mMiddle 156 = .ok (.iload 4, 2) := by decide +kernel
theorem d_mMiddle_158 : decode b_mMiddle 158 = .ok (.bipush 16, 2) := by decide +kernel
theorem d_mMiddle_160 : decode b_mMiddle 160 = .ok (.if_icmp .ne 18, 3) := by decide +kernel
theorem d_mMiddle_163 : decode b_mMiddle 163 = .ok (.iload_n 3, 1) := by decide +kernel
theorem d_mMiddle_164 : decode b_mMiddle 164 = .ok (.bipush 19, 2) := by decide +kernel
theorem d_mMiddle_166 : decode b_mMiddle 166 = .ok (.if_icmp .ne 12, 3) := by decide +kernel
theorem d_mMiddle_169 : decode b_mMiddle 169 = .ok (.aload_n 0, 1) := by decide +kernel
theorem d_mMiddle_170 : decode b_mMiddle 170 = .ok (.sipush 160, 3) := by decide +kernel
theorem d_mMiddle_173 : decode b_mMiddle 173 = .ok (.iconst 0, 1) := by decide +kernel
theorem d_mMiddle_174 : decode b_mMiddle 174 = .ok (.invokevirtual 83, 3) := by decide +kernel
theorem d_mMiddle_177 : decode b_mMiddle 177 = .ok (.ireturn, 1) := by decide +kernel
theorem d_mMiddle_178 : decode b_mMiddle 178 = .ok (.iload 4, 2) := by decide +kernel
theorem d_mMiddle_180 : decode b_mMiddle 180 = .ok (.bipush 10, 2) := by decide +kernel
theorem d_mMiddle_182 : decode b_mMiddle 182 = .ok (.if_icmp .ne 18, 3) := by decide +kernel
theorem d_mMiddle_185 : decode b_mMiddle 185 = .ok (.iload_n 3, 1) := by decide +kernel
theorem d_mMiddle_186 : decode b_mMiddle 186 = .ok (.bipush 10, 2) := by decide +kernel
theorem d_mMiddle_188 : decode b_mMiddle 188 = .ok (.if_icmp .ne 12, 3) := by decide +kernel
theorem d_mMiddle_191 : decode b_mMiddle 191 = .ok (.aload_n 0, 1) := by decide +kernel
theorem d_mMiddle_192 : decode b_mMiddle 192 = .ok (.sipush 170, 3) := by decide +kernel
theorem d_mMiddle_195 : decode b_mMiddle 195 = .ok (.iconst 0, 1) := by decide +kernel
theorem d_mMiddle_196 : decode b_mMiddle 196 = .ok (.invokevirtual 83, 3) := by decide +kernel
theorem d_mMiddle_199 : decode b_mMiddle 199 = .ok (.ireturn, 1) := by decide +kernel
theorem d_mMiddle_200 : decode b_mMiddle 200 = .ok (.iload_n 2, 1) := by decide +kernel
theorem d_mMiddle_201 : decode b_mMiddle 201 = .ok (.iconst 4, 1) := by decide +kernel
theorem d_mMiddle_202 : decode b_mMiddle 202 = .ok (.if_icmp .ne 12, 3) := by decide +kernel
theorem d_mMiddle_205 : decode b_mMiddle 205 = .ok (.aload_n 0, 1) := by decide +kernel
theorem d_mMiddle_206 : decode b_mMiddle 206 = .ok (.sipush 180, 3) := by decide +kernel
theorem d_mMiddle_209 : decode b_mMiddle 209 = .ok (.iconst 1, 1) := by decide +kernel
theorem d_mMiddle_210 : decode b_mMiddle 210 = .ok (.invokevirtual 83, 3) := by decide +kernel
theorem d_mMiddle_213 : decode b_mMiddle 213 = .ok (.ireturn, 1) := by decide +kernel
theorem d_mMiddle_214 : decode b_mMiddle 214 = .ok (.iload_n 2, 1) := by decide +kernel
theorem d_mMiddle_215 : decode b_mMiddle 215 = .ok (.bipush 21, 2) := by decide +kernel
theorem d_mMiddle_217 : decode b_mMiddle 217 = .ok (.if_icmp .eq 9, 3) := by decide +kernel
theorem d_mMiddle_220 : decode b_mMiddle 220 = .ok (.iload_n 3, 1) := by decide +kernel
theorem d_mMiddle_221 : decode b_mMiddle 221 = .ok (.bipush 21, 2) := by decide +kernel
theorem d_mMiddle_223 : decode b_mMiddle 223 = .ok (.if_icmp .ne 12, 3) := by decide +kernel
theorem d_mMiddle_226 : decode b_mMiddle 226 = .ok (.aload_n 0, 1) := by decide +kernel
theorem d_mMiddle_227 : decode b_mMiddle 227 = .ok (.sipush 190, 3) := by decide +kernel
theorem d_mMiddle_230 : decode b_mMiddle 230 = .ok (.iconst 0, 1) := by decide +kernel
theorem d_mMiddle_231 : decode b_mMiddle 231 = .ok (.invokevirtual 83, 3) := by decide +kernel
theorem d_mMiddle_234 : decode b_mMiddle 234 = .ok (.ireturn, 1) := by decide +kernel
theorem d_mMiddle_235 : decode b_mMiddle 235 = .ok (.iload_n 2, 1) := by decide +kernel
theorem d_mMiddle_236 : decode b_mMiddle 236 = .ok (.bipush 14, 2) := by decide +kernel
theorem d_mMiddle_238 : decode b_mMiddle 238 = .ok (.if_icmp .eq 9, 3) := by decide +kernel
theorem d_mMiddle_241 : decode b_mMiddle 241 = .ok (.iload_n 3, 1) := by decide +kernel
theorem d_mMiddle_242 : decode b_mMiddle 242 = .ok (.bipush 14, 2) := by decide +kernel
theorem d_mMiddle_244 : decode b_mMiddle 244 = .ok (.if_icmp .ne 14, 3) := by decide +kernel
theorem d_mMiddle_247 : decode b_mMiddle 247 = .ok (.aload_n 0, 1) := by decide +kernel
theorem d_mMiddle_248 : decode b_mMiddle 248 = .ok (.sipush 200, 3) := by decide +kernel
theorem d_mMiddle_251 : decode b_mMiddle 251 = .ok (.iconst 1, 1) := by decide +kernel
theorem d_mMiddle_252 : decode b_mMiddle 252 = .ok (.invokevirtual 83, 3) := by decide +kernel
theorem d_mMiddle_255 : decode b_mMiddle 255 = .ok (.goto 4, 3) := by decide +kernel
theorem d_mMiddle_258 : decode b_mMiddle 258 = .ok (.iconst 0, 1) := by decide +kernel
theorem d_mMiddle_259 : decode b_mMiddle 259 = .ok (.ireturn, 1) := by decide +kernel
theorem d_mLate_0 : decode b_mLate 0 = .ok (.iload_n 3, 1) := by decide +kernel
theorem d_mLate_1 : decode b_mLate 1 = .ok (.bipush 11, 2) := by decide +kernel
theorem d_mLate_3 : decode b_mLate 3 = .ok (.if_icmp .eq 21, 3) := by decide +kernel
theorem d_mLate_6 : decode b_mLate 6 = .ok (.iload_n 3, 1) := by decide +kernel
theorem d_mLate_7 : decode b_mLate 7 = .ok (.bipush 13, 2) := by decide +kernel
theorem d_mLate_9 : decode b_mLate 9 = .ok (.if_icmp .eq 15, 3) := by decide +kernel
theorem d_mLate_12 : decode b_mLate 12 = .ok (.iload_n 3, 1) := by decide +kernel
theorem d_mLate_13 : decode b_mLate 13 = .ok (.bipush 19, 2) := by decide +kernel
theorem d_mLate_15 : decode b_mLate 15 = .ok (.if_icmp .eq 9, 3) := by decide +kernel
theorem d_mLate_18 : decode b_mLate 18 = .ok (.iload_n 2, 1) := by decide +kernel
theorem d_mLate_19 : decode b_mLate 19 = .ok (.bipush 12, 2) := by decide +kernel
theorem d_mLate_21 : decode b_mLate 21 = .ok (.if_icmp .ne 12, 3) := by decide +kernel
theorem d_mLate_24 : decode b_mLate 24 = .ok (.aload_n 0, 1) := by decide +kernel
theorem d_mLate_25 : decode b_mLate 25 = .ok (.sipush 210, 3) := by decide +kernel
theorem d_mLate_28 : decode b_mLate 28 = .ok (.iconst 0, 1) := by decide +kernel
theorem d_mLate_29 : decode b_mLate 29 = .ok (.invokevirtual 83, 3) := by decide +kernel
theorem d_mLate_32 : decode b_mLate 32 = .ok (.ireturn, 1) := by decide +kernel
theorem d_mLate_33 : decode b_mLate 33 = .ok (.iload_n 2, 1) := by decide +kernel
theorem d_mLate_34 : decode b_mLate 34 = .ok (.bipush 13, 2) := by decide +kernel
theorem d_mLate_36 : decode b_mLate 36 = .ok (.if_icmp .eq 9, 3) := by decide +kernel
theorem d_mLate_39 : decode b_mLate 39 = .ok (.iload_n 2, 1) := by decide +kernel
theorem d_mLate_40 : decode b_mLate 40 = .ok (.bipush 11, 2) := by decide +kernel
theorem d_mLate_42 : decode b_mLate 42 = .ok (.if_icmp .ne 28, 3) := by decide +kernel
theorem d_mLate_45 : decode b_mLate 45 = .ok (.aload_n 0, 1) := by decide +kernel
theorem d_mLate_46 : decode b_mLate 46 = .ok (.aload_n 0, 1) := by decide +kernel
theorem d_mLate_47 : decode b_mLate 47 = .ok (.iload_n 1, 1) := by decide +kernel
theorem d_mLate_48 : decode b_mLate 48 = .ok (.iconst 1, 1) := by decide +kernel
theorem d_mLate_49 : decode b_mLate 49 = .ok (.isub, 1) := by decide +kernel
theorem d_mLate_50 : decode b_mLate 50 = .ok (.invokevirtual 87, 3) := by decide +kernel
theorem d_mLate_53 : decode b_mLate 53 = .ok (.invokevirtual 90, 3) := by decide +kernel
theorem d_mLate_56 : decode b_mLate 56 = .ok (.bipush 28, 2) := by decide +kernel
theorem d_mLate_58 : decode b_mLate 58 = .ok (.if_icmp .ne 12, 3) := by decide +kernel
theorem d_mLate_61 : decode b_mLate 61 = .ok (.aload_n 0, 1) := by decide +kernel
theorem d_mLate_62 : decode b_mLate 62 = .ok (.sipush 211, 3) := by decide +kernel
theorem d_mLate_65 : decode b_mLate 65 = .ok (.iconst 0, 1) := by decide +kernel
theorem d_mLate_66 : decode b_mLate 66 = .ok (.invokevirtual 83, 3) := by decide +kernel
theorem d_mLate_69 : decode b_mLate 69 = .ok (.ireturn, 1) := by decide +kernel
theorem d_mLate_70 : decode b_mLate 70 = .ok (.iload_n 2, 1) := by decide +kernel
theorem d_mLate_71 : decode b_mLate 71 = .ok (.bipush 26, 2) := by decide +kernel
theorem d_mLate_73 : decode b_mLate 73 = .ok (.if_icmp .ne 18, 3) := by decide +kernel
theorem d_mLate_76 : decode b_mLate 76 = .ok (.iload_n 3, 1) := by decide +kernel
theorem d_mLate_77 : decode b_mLate 77 = .ok (.bipush 28, 2) := by decide +kernel
theorem d_mLate_79 : decode b_mLate 79 = .ok (.if_icmp .ne 12, 3) := by decide +kernel
theorem d_mLate_82 : decode b_mLate 82 = .ok (.aload_n 0, 1) := by decide +kernel
theorem d_mLate_83 : decode b_mLate 83 = .ok (.sipush 212, 3) := by decide +kernel
theorem d_mLate_86 : decode b_mLate 86 = .ok (.iconst 0, 1) := by decide +kernel
theorem d_mLate_87 : decode b_mLate 87 = .ok (.invokevirtual 83, 3) := by decide +kernel
theorem d_mLate_90 : decode b_mLate 90 = .ok (.ireturn, 1) := by decide +kernel
theorem d_mLate_91 : decode b_mLate 91 = .ok (.iload_n 3, 1) := by decide +kernel
theorem d_mLate_92 : decode b_mLate 92 = .ok (.bipush 18, 2) := by decide +kernel
theorem d_mLate_94 : decode b_mLate 94 = .ok (.if_icmp .ne 12, 3) := by decide +kernel
theorem d_mLate_97 : decode b_mLate 97 = .ok (.aload_n 0, 1) := by decide +kernel
theorem d_mLate_98 : decode b_mLate 98 = .ok (.sipush 220, 3) := by decide +kernel
theorem d_mLate_101 : decode b_mLate 101 = .ok (.iconst 0, 1) := by decide +kernel
theorem d_mLate_102 : decode b_mLate 102 = .ok (.invokevirtual 83, 3) := by decide +kernel
theorem d_mLate_105 : decode b_mLate 105 = .ok (.ireturn, 1) := by decide +kernel
theorem d_mLate_106 : decode b_mLate 106 = .ok (.iload_n 2, 1) := by decide +kernel
theorem d_mLate_107 : decode b_mLate 107 = .ok (.invokestatic 96, 3) := by decide +kernel
theorem d_mLate_110 : decode b_mLate 110 = .ok (.ifCond .eq 9, 3) := by decide +kernel
theorem d_mLate_113 : decode b_mLate 113 = .ok (.iload_n 3, 1) := by decide +kernel
theorem d_mLate_114 : decode b_mLate 114 = .ok (.bipush 23, 2) := by decide +kernel
theorem d_mLate_116 : decode b_mLate 116 = .ok (.if_icmp .eq 16, 3) := by decide +kernel
theorem d_mLate_119 : decode b_mLate 119 = .ok (.iload_n 2, 1) := by decide +kernel
theorem d_mLate_120 : decode b_mLate 120 = .ok (.bipush 23, 2) := by decide +kernel
theorem d_mLate_122 : decode b_mLate 122 = .ok (.if_icmp .ne 19, 3) := by decide +kernel
theorem d_mLate_125 : decode b_mLate 125 = .ok (.iload_n 3, 1) := by decide +kernel
theorem d_mLate_126 : decode b_mLate 126 = .ok (.invokestatic 96, 3) := by decide +kernel
theorem d_mLate_129 : decode b_mLate 129 = .ok (.ifCond .eq 12, 3) := by decide +kernel
theorem d_mLate_132 : decode b_mLate 132 = .ok (.aload_n 0, 1) := by decide +kernel
theorem d_mLate_133 : decode b_mLate 133 = .ok (.sipush 230, 3) := by decide +kernel
theorem d_mLate_136 : decode b_mLate 136 = .ok (.iconst 0, 1) := by decide +kernel
theorem d_mLate_137 : decode b_mLate 137 = .ok (.invokevirtual 83, 3) := by decide +kernel
theorem d_mLate_140 : decode b_mLate 140 = .ok (.ireturn, 1) := by decide +kernel
theorem d_mLate_141 : decode b_mLate 141 = .ok (.iload_n 3, 1) := by decide +kernel
theorem d_mLate_142 : decode b_mLate 142 = .ok (.bipush 29, 2) := by decide +kernel
theorem d_mLate_144 : decode b_mLate 144 = .ok (.if_icmp .eq 15, 3) := by decide +kernel
theorem d_mLate_147 : decode b_mLate 147 = .ok (.iload_n 3, 1) := by decide +kernel
theorem d_mLate_148 : decode b_mLate 148 = .ok (.bipush 30, 2) := by decide +kernel
theorem d_mLate_150 : decode b_mLate 150 = .ok (.if_icmp .eq 9, 3) := by decide +kernel
theorem d_mLate_153 : decode b_mLate 153 = .ok (.iload_n 3, 1) := by decide +kernel
theorem d_mLate_154 : decode b_mLate 154 = .ok (.bipush 31, 2) := by decide +kernel
theorem d_mLate_156 : decode b_mLate 156 = .ok (.if_icmp .ne 7, 3) := by decide +kernel
theorem d_mLate_159 : decode b_mLate 159 = .ok (.iconst 1, 1) := by decide +kernel
theorem d_mLate_160 : decode b_mLate 160 = .ok (.goto 4, 3) := by decide +kernel
theorem d_mLate_163 : decode b_mLate 163 = .ok (.iconst 0, 1) := by decide +kernel
theorem d_mLate_164 : decode b_mLate 164 = .ok (.istore 4, 2) := by decide +kernel
theorem d_mLate_166 : decode b_mLate 166 = .ok (.iload_n 2, 1) := by decide +kernel
theorem d_mLate_167 : decode b_mLate 167 = .ok (.bipush 29, 2) := by decide +kernel
theorem d_mLate_169 : decode b_mLate 169 = .ok (.if_icmp .eq 15, 3) := by decide +kernel
theorem d_mLate_172 : decode b_mLate 172 = .ok (.iload_n 2, 1) := by decide +kernel
theorem d_mLate_173 : decode b_mLate 173 = .ok (.bipush 30, 2) := by decide +kernel
theorem d_mLate_175 : decode b_mLate 175 = .ok (.if_icmp .eq 9, 3) := by decide +kernel
theorem d_mLate_178 : decode b_mLate 178 = .ok (.iload_n 2, 1) := by decide +kernel
theorem d_mLate_179 : decode b_mLate 179 = .ok (.bipush 31, 2) := by decide +kernel
theorem d_mLate_181 : decode b_mLate 181 = .ok (.if_icmp .ne 7, 3) := by decide +kernel
theorem d_mLate_184 : decode b_mLate 184 = .ok (.iconst 1, 1) := by decide +kernel
theorem d_mLate_185 : decode b_mLate 185 = .ok (.goto 4, 3) := by decide +kernel
theorem d_mLate_188 : decode b_mLate 188 = .ok (.iconst 0, 1) := by decide +kernel
theorem d_mLate_189 : decode b_mLate 189 = .ok (.istore 5, 2) := by decide +kernel
theorem d_mLate_191 : decode b_mLate 191 = .ok (.iload_n 2, 1) := by decide +kernel
theorem d_mLate_192 : decode b_mLate 192 = .ok (.bipush 25, 2) := by decide +kernel
theorem d_mLate_194 : decode b_mLate 194 = .ok (.if_icmp .ne 8, 3) := by decide +kernel
theorem d_mLate_197 : decode b_mLate 197 = .ok (.iload 4, 2) := by decide +kernel
theorem d_mLate_199 : decode b_mLate 199 = .ok (.ifCond .ne 14, 3) := by decide +kernel
theorem d_mLate_202 : decode b_mLate 202 = .ok (.iload 5, 2) := by decide +kernel
theorem d_mLate_204 : decode b_mLate 204 = .ok (.ifCond .eq 18, 3) := by decide +kernel
theorem d_mLate_207 : decode b_mLate 207 = .ok (.iload_n 3, 1) := by decide +kernel
theorem d_mLate_208 : decode b_mLate 208 = .ok (.bipush 24, 2) := by decide +kernel
theorem d_mLate_210 : decode b_mLate 210 = .ok (.if_icmp .ne 12, 3) := by decide +kernel
theorem d_mLate_213 : decode b_mLate 213 = .ok (.aload_n 0, 1) := by decide +kernel
theorem d_mLate_214 : decode b_mLate 214 = .ok (.sipush 231, 3) := by decide +kernel
theorem d_mLate_217 : decode b_mLate 217 = .ok (.iconst 0, 1) := by decide +kernel
theorem d_mLate_218 : decode b_mLate 218 = .ok (.invokevirtual 83, 3) := by decide +kernel
theorem d_mLate_221 : decode b_mLate 221 = .ok (.ireturn, 1) := by decide +kernel
theorem d_mLate_222 : decode b_mLate 222 = .ok (.iload_n 2, 1) := by decide +kernel
theorem d_mLate_223 : decode b_mLate 223 = .ok (.bipush 25, 2) := by decide +kernel
theorem d_mLate_225 : decode b_mLate 225 = .ok (.if_icmp .eq 9, 3) := by decide +kernel
theorem d_mLate_228 : decode b_mLate 228 = .ok (.iload_n 2, 1) := by decide +kernel
theorem d_mLate_229 : decode b_mLate 229 = .ok (.bipush 24, 2) := by decide +kernel
theorem d_mLate_231 : decode b_mLate 231 = .ok (.if_icmp .ne 7, 3) := by decide +kernel
theorem d_mLate_234 : decode b_mLate 234 = .ok (.iconst 1, 1) := by decide +kernel
theorem d_mLate_235 : decode b_mLate 235 = .ok (.goto 4, 3) := by decide +kernel
theorem d_mLate_238 : decode b_mLate 238 = .ok (.iconst 0, 1) := by decide +kernel
theorem d_mLate_239 : decode b_mLate 239 = .ok (.istore 6, 2) := by decide +kernel
theorem d_mLate_241 : decode b_mLate 241 = .ok (.iload 6, 2) := by decide +kernel
theorem d_mLate_243 : decode b_mLate 243 = .ok (.ifCond .eq 10, 3) := by decide +kernel
theorem d_mLate_246 : decode b_mLate 246 = .ok (.iload_n 3, 1) := by decide +kernel
theorem d_mLate_247 : decode b_mLate 247 = .ok (.invokestatic 96, 3) := by decide +kernel
theorem d_mLate_250 : decode b_mLate 250 = .ok (.ifCond .ne 22, 3) := by decide +kernel
theorem d_mLate_253 : decode b_mLate 253 = .ok (.iload_n 2, 1) := by decide +kernel
theorem d_mLate_254 : decode b_mLate 254 = .ok (.invokestatic 96, 3) := by decide +kernel
theorem d_mLate_257 : decode b_mLate 257 = .ok (.ifCond .eq 26, 3) := by decide +kernel
theorem d_mLate_260 : decode b_mLate 260 = .ok (.iload_n 3, 1) := by decide +kernel
theorem d_mLate_261 : decode b_mLate 261 = .ok (.bipush 25, 2) := by decide +kernel
theorem d_mLate_263 : decode b_mLate 263 = .ok (.if_icmp .eq 9, 3) := by decide +kernel
theorem d_mLate_266 : decode b_mLate 266 = .ok (.iload_n 3, 1) := by decide +kernel
theorem d_mLate_267 : decode b_mLate 267 = .ok (.bipush 24, 2) := by decide +kernel
theorem d_mLate_269 : decode b_mLate 269 = .ok (.if_icmp .ne 14, 3) := by decide +kernel
theorem d_mLate_272 : decode b_mLate 272 = .ok (.aload_n 0, 1) := by decide +kernel
theorem d_mLate_273 : decode b_mLate 273 = .ok (.sipush 240, 3) := by decide +kernel
theorem d_mLate_276 : decode b_mLate 276 = .ok (.iconst 0, 1) := by decide +kernel
theorem d_mLate_277 : decode b_mLate 277 = .ok (.invokevirtual 83, 3) := by decide +kernel
theorem d_mLate_280 : decode b_mLate 280 = .ok (.goto 4, 3) := by decide +kernel
theorem d_mLate_283 : decode b_mLate 283 = .ok (.iconst 0, 1) := by decide +kernel
theorem d_mLate_284 : decode b_mLate 284 = .ok (.ireturn, 1) := by decide +kernel
theorem d_mLast_0 : decode b_mLast 0 = .ok (.iload_n 3, 1) := by decide +kernel
theorem d_mLast_1 : decode b_mLast 1 = .ok (.iload 4, 2) := by decide +kernel
theorem d_mLast_3 : decode b_mLast 3 = .ok (.invokestatic 99, 3) := by decide +kernel
theorem d_mLast_6 : decode b_mLast 6 = .ok (.ifCond .eq 12, 3) := by decide +kernel
theorem d_mLast_9 : decode b_mLast 9 = .ok (.aload_n 0, 1) := by decide +kernel
theorem d_mLast_10 : decode b_mLast 10 = .ok (.sipush 250, 3) := by decide +kernel
theorem d_mLast_13 : decode b_mLast 13 = .ok (.iconst 0, 1) := by decide +kernel
theorem d_mLast_14 : decode b_mLast 14 = .ok (.invokevirtual 83, 3) := by decide +kernel
theorem d_mLast_17 : decode b_mLast 17 = .ok (.ireturn, 1) := by decide +kernel
theorem d_mLast_18 : decode b_mLast 18 = .ok (.iload_n 3, 1) := by decide +kernel
theorem d_mLast_19 : decode b_mLast 19 = .ok (.iload 4, 2) := by decide +kernel
theorem d_mLast_21 : decode b_mLast 21 = .ok (.invokestatic 103, 3) := by decide +kernel
theorem d_mLast_24 : decode b_mLast 24 = .ok (.ifCond .eq 12, 3) := by decide +kernel
theorem d_mLast_27 : decode b_mLast 27 = .ok (.aload_n 0, 1) := by decide +kernel
theorem d_mLast_28 : decode b_mLast 28 = .ok (.sipush 260, 3) := by decide +kernel
theorem d_mLast_31 : decode b_mLast 31 = .ok (.iconst 0, 1) := by decide +kernel
theorem d_mLast_32 : decode b_mLast 32 = .ok (.invokevirtual 83, 3) := by decide +kernel
theorem d_mLast_35 : decode b_mLast 35 = .ok (.ireturn, 1) := by decide +kernel
theorem d_mLast_36 : decode b_mLast 36 = .ok (.iload_n 3, 1) := by decide +kernel
theorem d_mLast_37 : decode b_mLast 37 = .ok (.invokestatic 106, 3) := by decide +kernel
theorem d_mLast_40 : decode b_mLast 40 = .ok (.ifCond .eq 10, 3) := by decide +kernel
theorem d_mLast_43 : decode b_mLast 43 = .ok (.iload 4, 2) := by decide +kernel
theorem d_mLast_45 : decode b_mLast 45 = .ok (.bipush 24, 2) := by decide +kernel
theorem d_mLast_47 : decode b_mLast 47 = .ok (.if_icmp .eq 17, 3) := by decide +kernel
theorem d_mLast_50 : decode b_mLast 50 = .ok (.iload_n 3, 1) := by decide +kernel
theorem d_mLast_51 : decode b_mLast 51 = .ok (.bipush 25, 2) := by decide +kernel
theorem d_mLast_53 : decode b_mLast 53 = .ok (.if_icmp .ne 20, 3) := by decide +kernel
theorem d_mLast_56 : decode b_mLast 56 = .ok (.iload 4, 2) := by decide +kernel
theorem d_mLast_58 : decode b_mLast 58 = .ok (.invokestatic 106, 3) := by decide +kernel
theorem d_mLast_61 : decode b_mLast 61 = .ok (.ifCond .eq 12, 3) := by decide +kernel
theorem d_mLast_64 : decode b_mLast 64 = .ok (.aload_n 0, 1) := by decide +kernel
theorem d_mLast_65 : decode b_mLast 65 = .ok (.sipush 270, 3) := by decide +kernel
theorem d_mLast_68 : decode b_mLast 68 = .ok (.iconst 0, 1) := by decide +kernel
theorem d_mLast_69 : decode b_mLast 69 = .ok (.invokevirtual 83, 3) := by decide +kernel
theorem d_mLast_72 : decode b_mLast 72 = .ok (.ireturn, 1) := by decide +kernel
theorem d_mLast_73 : decode b_mLast 73 = .ok (.iload_n 3, 1) := by decide +kernel
theorem d_mLast_74 : decode b_mLast 74 = .ok (.invokestatic 96, 3) := by decide +kernel
theorem d_mLast_77 : decode b_mLast 77 = .ok (.ifCond .eq 20, 3) := by decide +kernel
theorem d_mLast_80 : decode b_mLast 80 = .ok (.iload 4, 2) := by decide +kernel
theorem d_mLast_82 : decode b_mLast 82 = .ok (.invokestatic 96, 3) := by decide +kernel
theorem d_mLast_85 : decode b_mLast 85 = .ok (.ifCond .eq 12, 3) := by decide +kernel
theorem d_mLast_88 : decode b_mLast 88 = .ok (.aload_n 0, 1) := by decide +kernel
theorem d_mLast_89 : decode b_mLast 89 = .ok (.sipush 280, 3) := by decide +kernel
theorem d_mLast_92 : decode b_mLast 92 = .ok (.iconst 0, 1) := by decide +kernel
theorem d_mLast_93 : decode b_mLast 93 = .ok (.invokevirtual 83, 3) := by decide +kernel
theorem d_mLast_96 : decode b_mLast 96 = .ok (.ireturn, 1) := by decide +kernel
theorem d_mLast_97 : decode b_mLast 97 = .ok (.iload_n 3, 1) := by decide +kernel
theorem d_mLast_98 : decode b_mLast 98 = .ok (.bipush 22, 2) := by decide +kernel
theorem d_mLast_100 : decode b_mLast 100 = .ok (.if_icmp .ne 20, 3) := by decide +kernel
theorem d_mLast_103 : decode b_mLast 103 = .ok (.iload 4, 2) := by decide +kernel
theorem d_mLast_105 : decode b_mLast 105 = .ok (.invokestatic 96, 3) := by decide +kernel
theorem d_mLast_108 : decode b_mLast 108 = .ok (.ifCond .eq 12, 3) := by decide +kernel
