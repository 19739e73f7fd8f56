theorem d_mLast_111 : decode b_mLast 111 = .ok (.aload_n 0, 1) := by decide +kernel
theorem d_mLast_112 : decode b_mLast 112 = .ok (.sipush 290, 3) := by decide +kernel
theorem d_mLast_115 : decode b_mLast 115 = .ok (.iconst 0, 1) := by decide +kernel
theorem d_mLast_116 : decode b_mLast 116 = .ok (.invokevirtual 83, 3) := by decide +kernel
theorem d_mLast_119 : decode b_mLast 119 = .ok (.ireturn, 1) := by decide +kernel
theorem d_mLast_120 : decode b_mLast 120 = .ok (.iload_n 3, 1) := by decide +kernel
theorem d_mLast_121 : decode b_mLast 121 = .ok (.invokestatic 96, 3) := by decide +kernel
theorem d_mLast_124 : decode b_mLast 124 = .ok (.ifCond .ne 9, 3) := by decide +kernel
theorem d_mLast_127 : decode b_mLast 127 = .ok (.iload_n 3, 1) := by decide +kernel
theorem d_mLast_128 : decode b_mLast 128 = .ok (.bipush 23, 2) := by decide +kernel
theorem d_mLast_130 : decode b_mLast 130 = .ok (.if_icmp .ne 23, 3) := by decide +kernel
theorem d_mLast_133 : decode b_mLast 133 = .ok (.iload 4, 2) := by decide +kernel
theorem d_mLast_135 : decode b_mLast 135 = .ok (.bipush 20, 2) := by decide +kernel
theorem d_mLast_137 : decode b_mLast 137 = .ok (.if_icmp .ne 16, 3) := by decide +kernel
theorem d_mLast_140 : decode b_mLast 140 = .ok (.aload_n 0, 1) := by decide +kernel
theorem d_mLast_141 : decode b_mLast 141 = .ok (.iload_n 1, 1) := by decide +kernel
theorem d_mLast_142 : decode b_mLast 142 = .ok (.iconst 0, 1) := by decide +kernel
theorem d_mLast_143 : decode b_mLast 143 = .ok (.invokevirtual 109, 3) := by decide +kernel
theorem d_mLast_146 : decode b_mLast 146 = .ok (.ifCond .ne 7, 3) := by decide +kernel
theorem d_mLast_149 : decode b_mLast 149 = .ok (.iconst 1, 1) := by decide +kernel
theorem d_mLast_150 : decode b_mLast 150 = .ok (.goto 4, 3) := by decide +kernel
theorem d_mLast_153 : decode b_mLast 153 = .ok (.iconst 0, 1) := by decide +kernel
theorem d_mLast_154 : decode b_mLast 154 = .ok (.istore 5, 2) := by decide +kernel
theorem d_mLast_156 : decode b_mLast 156 = .ok (.iload_n 3, 1) := by decide +kernel
theorem d_mLast_157 : decode b_mLast 157 = .ok (.bipush 16, 2) := by decide +kernel
theorem d_mLast_159 : decode b_mLast 159 = .ok (.if_icmp .ne 31, 3) := by decide +kernel
theorem d_mLast_162 : decode b_mLast 162 = .ok (.aload_n 0, 1) := by decide +kernel
theorem d_mLast_163 : decode b_mLast 163 = .ok (.iload_n 2, 1) := by decide +kernel
theorem d_mLast_164 : decode b_mLast 164 = .ok (.iconst 0, 1) := by decide +kernel
theorem d_mLast_165 : decode b_mLast 165 = .ok (.invokevirtual 109, 3) := by decide +kernel
theorem d_mLast_168 : decode b_mLast 168 = .ok (.ifCond .ne 22, 3) := by decide +kernel
theorem d_mLast_171 : decode b_mLast 171 = .ok (.iload 4, 2) := by decide +kernel
theorem d_mLast_173 : decode b_mLast 173 = .ok (.invokestatic 96, 3) := by decide +kernel
theorem d_mLast_176 : decode b_mLast 176 = .ok (.ifCond .ne 10, 3) := by decide +kernel
theorem d_mLast_179 : decode b_mLast 179 = .ok (.iload 4, 2) := by decide +kernel
theorem d_mLast_181 : decode b_mLast 181 = .ok (.bipush 23, 2) := by decide +kernel
theorem d_mLast_183 : decode b_mLast 183 = .ok (.if_icmp .ne 7, 3) := by decide +kernel
theorem d_mLast_186 : decode b_mLast 186 = .ok (.iconst 1, 1) := by decide +kernel
theorem d_mLast_187 : decode b_mLast 187 = .ok (.goto 4, 3) := by decide +kernel
theorem d_mLast_190 : decode b_mLast 190 = .ok (.iconst 0, 1) := by decide +kernel
theorem d_mLast_191 : decode b_mLast 191 = .ok (.istore 6, 2) := by decide +kernel
theorem d_mLast_193 : decode b_mLast 193 = .ok (.iload 5, 2) := by decide +kernel
theorem d_mLast_195 : decode b_mLast 195 = .ok (.ifCond .ne 8, 3) := by decide +kernel
theorem d_mLast_198 : decode b_mLast 198 = .ok (.iload 6, 2) := by decide +kernel
theorem d_mLast_200 : decode b_mLast 200 = .ok (.ifCond .eq 12, 3) := by decide +kernel
theorem d_mLast_203 : decode b_mLast 203 = .ok (.aload_n 0, 1) := by decide +kernel
theorem d_mLast_204 : decode b_mLast 204 = .ok (.sipush 300, 3) := by decide +kernel
theorem d_mLast_207 : decode b_mLast 207 = .ok (.iconst 0, 1) := by decide +kernel
theorem d_mLast_208 : decode b_mLast 208 = .ok (.invokevirtual 83, 3) := by decide +kernel
theorem d_mLast_211 : decode b_mLast 211 = .ok (.ireturn, 1) := by decide +kernel
theorem d_mLast_212 : decode b_mLast 212 = .ok (.iload_n 3, 1) := by decide +kernel
theorem d_mLast_213 : decode b_mLast 213 = .ok (.bipush 37, 2) := by decide +kernel
theorem d_mLast_215 : decode b_mLast 215 = .ok (.if_icmp .ne 30, 3) := by decide +kernel
theorem d_mLast_218 : decode b_mLast 218 = .ok (.iload 4, 2) := by decide +kernel
theorem d_mLast_220 : decode b_mLast 220 = .ok (.bipush 37, 2) := by decide +kernel
theorem d_mLast_222 : decode b_mLast 222 = .ok (.if_icmp .ne 23, 3) := by decide +kernel
theorem d_mLast_225 : decode b_mLast 225 = .ok (.aload_n 0, 1) := by decide +kernel
theorem d_mLast_226 : decode b_mLast 226 = .ok (.iload_n 2, 1) := by decide +kernel
theorem d_mLast_227 : decode b_mLast 227 = .ok (.invokevirtual 112, 3) := by decide +kernel
theorem d_mLast_230 : decode b_mLast 230 = .ok (.iconst 2, 1) := by decide +kernel
theorem d_mLast_231 : decode b_mLast 231 = .ok (.irem, 1) := by decide +kernel
theorem d_mLast_232 : decode b_mLast 232 = .ok (.iconst 1, 1) := by decide +kernel
theorem d_mLast_233 : decode b_mLast 233 = .ok (.if_icmp .ne 12, 3) := by decide +kernel
theorem d_mLast_236 : decode b_mLast 236 = .ok (.aload_n 0, 1) := by decide +kernel
theorem d_mLast_237 : decode b_mLast 237 = .ok (.sipush 301, 3) := by decide +kernel
theorem d_mLast_240 : decode b_mLast 240 = .ok (.iconst 0, 1) := by decide +kernel
theorem d_mLast_241 : decode b_mLast 241 = .ok (.invokevirtual 83, 3) := by decide +kernel
theorem d_mLast_244 : decode b_mLast 244 = .ok (.ireturn, 1) := by decide +kernel
theorem d_mLast_245 : decode b_mLast 245 = .ok (.iload 4, 2) := by decide +kernel
theorem d_mLast_247 : decode b_mLast 247 = .ok (.bipush 31, 2) := by decide +kernel
theorem d_mLast_249 : decode b_mLast 249 = .ok (.if_icmp .ne 27, 3) := by decide +kernel
theorem d_mLast_252 : decode b_mLast 252 = .ok (.iload_n 3, 1) := by decide +kernel
theorem d_mLast_253 : decode b_mLast 253 = .ok (.bipush 30, 2) := by decide +kernel
theorem d_mLast_255 : decode b_mLast 255 = .ok (.if_icmp .eq 12, 3) := by decide +kernel
theorem d_mLast_258 : decode b_mLast 258 = .ok (.aload_n 0, 1) := by decide +kernel
theorem d_mLast_259 : decode b_mLast 259 = .ok (.iload_n 2, 1) := by decide +kernel
theorem d_mLast_260 : decode b_mLast 260 = .ok (.iconst 1, 1) := by decide +kernel
theorem d_mLast_261 : decode b_mLast 261 = .ok (.invokevirtual 109, 3) := by decide +kernel
theorem d_mLast_264 : decode b_mLast 264 = .ok (.ifCond .eq 12, 3) := by decide +kernel
theorem d_mLast_267 : decode b_mLast 267 = .ok (.aload_n 0, 1) := by decide +kernel
theorem d_mLast_268 : decode b_mLast 268 = .ok (.sipush 302, 3) := by decide +kernel
theorem d_mLast_271 : decode b_mLast 271 = .ok (.iconst 0, 1) := by decide +kernel
theorem d_mLast_272 : decode b_mLast 272 = .ok (.invokevirtual 83, 3) := by decide +kernel
theorem d_mLast_275 : decode b_mLast 275 = .ok (.ireturn, 1) := by decide +kernel
theorem d_mLast_276 : decode b_mLast 276 = .ok (.aload_n 0, 1) := by decide +kernel
theorem d_mLast_277 : decode b_mLast 277 = .ok (.sipush 310, 3) := by decide +kernel
theorem d_mLast_280 : decode b_mLast 280 = .ok (.iconst 1, 1) := by decide +kernel
theorem d_mLast_281 : decode b_mLast 281 = .ok (.invokevirtual 83, 3) := by decide +kernel
theorem d_mLast_284 : decode b_mLast 284 = .ok (.ireturn, 1) := by decide +kernel
theorem d_mLook_0 : decode b_mLook 0 = .ok (.aload_n 0, 1) := by decide +kernel
theorem d_mLook_1 : decode b_mLook 1 = .ok (.iload_n 1, 1) := by decide +kernel
theorem d_mLook_2 : decode b_mLook 2 = .ok (.invokevirtual 115, 3) := by decide +kernel
theorem d_mLook_5 : decode b_mLook 5 = .ok (.istore_n 2, 1) := by decide +kernel
theorem d_mLook_6 : decode b_mLook 6 = .ok (.iload_n 2, 1) := by decide +kernel
theorem d_mLook_7 : decode b_mLook 7 = .ok (.ifCond .le 5, 3) := by decide +kernel
theorem d_mLook_10 : decode b_mLook 10 = .ok (.iload_n 2, 1) := by decide +kernel
theorem d_mLook_11 : decode b_mLook 11 = .ok (.ireturn, 1) := by decide +kernel
theorem d_mLook_12 : decode b_mLook 12 = .ok (.aload_n 0, 1) := by decide +kernel
theorem d_mLook_13 : decode b_mLook 13 = .ok (.iload_n 1, 1) := by decide +kernel
theorem d_mLook_14 : decode b_mLook 14 = .ok (.iconst 1, 1) := by decide +kernel
theorem d_mLook_15 : decode b_mLook 15 = .ok (.isub, 1) := by decide +kernel
theorem d_mLook_16 : decode b_mLook 16 = .ok (.invokevirtual 87, 3) := by decide +kernel
theorem d_mLook_19 : decode b_mLook 19 = .ok (.istore_n 3, 1) := by decide +kernel
theorem d_mLook_20 : decode b_mLook 20 = .ok (.aload_n 0, 1) := by decide +kernel
theorem d_mLook_21 : decode b_mLook 21 = .ok (.iload_n 3, 1) := by decide +kernel
theorem d_mLook_22 : decode b_mLook 22 = .ok (.invokevirtual 90, 3) := by decide +kernel
theorem d_mLook_25 : decode b_mLook 25 = .ok (.istore 4, 2) := by decide +kernel
theorem d_mLook_27 : decode b_mLook 27 = .ok (.aload_n 0, 1) := by decide +kernel
theorem d_mLook_28 : decode b_mLook 28 = .ok (.iload_n 1, 1) := by decide +kernel
theorem d_mLook_29 : decode b_mLook 29 = .ok (.invokevirtual 90, 3) := by decide +kernel
theorem d_mLook_32 : decode b_mLook 32 = .ok (.istore 5, 2) := by decide +kernel
theorem d_mLook_34 : decode b_mLook 34 = .ok (.aload_n 0, 1) := by decide +kernel
theorem d_mLook_35 : decode b_mLook 35 = .ok (.iload_n 1, 1) := by decide +kernel
theorem d_mLook_36 : decode b_mLook 36 = .ok (.iload 4, 2) := by decide +kernel
theorem d_mLook_38 : decode b_mLook 38 = .ok (.iload 5, 2) := by decide +kernel
theorem d_mLook_40 : decode b_mLook 40 = .ok (.invokevirtual 118, 3) := by decide +kernel
theorem d_mLook_43 : decode b_mLook 43 = .ok (.istore_n 2, 1) := by decide +kernel
theorem d_mLook_44 : decode b_mLook 44 = .ok (.iload_n 2, 1) := by decide +kernel
theorem d_mLook_45 : decode b_mLook 45 = .ok (.ifCond .le 7, 3) := by decide +kernel
theorem d_mLook_48 : decode b_mLook 48 = .ok (.iload_n 2, 1) := by decide +kernel
theorem d_mLook_49 : decode b_mLook 49 = .ok (.goto 12, 3) := by decide +kernel
theorem d_mLook_52 : decode b_mLook 52 = .ok (.aload_n 0, 1) := by decide +kernel
theorem d_mLook_53 : decode b_mLook 53 = .ok (.iload_n 3, 1) := by decide +kernel
theorem d_mLook_54 : decode b_mLook 54 = .ok (.iload 4, 2) := by decide +kernel
theorem d_mLook_56 : decode b_mLook 56 = .ok (.iload 5, 2) := by decide +kernel
theorem d_mLook_58 : decode b_mLook 58 = .ok (.invokevirtual 122, 3) := by decide +kernel
theorem d_mLook_61 : decode b_mLook 61 = .ok (.istore_n 2, 1) := by decide +kernel
theorem d_mLook_62 : decode b_mLook 62 = .ok (.iload_n 2, 1) := by decide +kernel
theorem d_mLook_63 : decode b_mLook 63 = .ok (.ifCond .le 7, 3) := by decide +kernel
theorem d_mLook_66 : decode b_mLook 66 = .ok (.iload_n 2, 1) := by decide +kernel
theorem d_mLook_67 : decode b_mLook 67 = .ok (.goto 13, 3) := by decide +kernel
theorem d_mLook_70 : decode b_mLook 70 = .ok (.aload_n 0, 1) := by decide +kernel
theorem d_mLook_71 : decode b_mLook 71 = .ok (.iload_n 1, 1) := by decide +kernel
theorem d_mLook_72 : decode b_mLook 72 = .ok (.iload_n 3, 1) := by decide +kernel
theorem d_mLook_73 : decode b_mLook 73 = .ok (.iload 4, 2) := by decide +kernel
theorem d_mLook_75 : decode b_mLook 75 = .ok (.iload 5, 2) := by decide +kernel
theorem d_mLook_77 : decode b_mLook 77 = .ok (.invokevirtual 125, 3) := by decide +kernel
theorem d_mLook_80 : decode b_mLook 80 = .ok (.ireturn, 1) := by decide +kernel
theorem d_mIsPosition_0 : decode b_mIsPosition 0 = .ok (.iload_n 1, 1) := by decide +kernel
theorem d_mIsPosition_1 : decode b_mIsPosition 1 = .ok (.ifCond .lt 15, 3) := by decide +kernel
theorem d_mIsPosition_4 : decode b_mIsPosition 4 = .ok (.iload_n 1, 1) := by decide +kernel
theorem d_mIsPosition_5 : decode b_mIsPosition 5 = .ok (.aload_n 0, 1) := by decide +kernel
theorem d_mIsPosition_6 : decode b_mIsPosition 6 = .ok (.getfield 68, 3) := by decide +kernel
theorem d_mIsPosition_9 : decode b_mIsPosition 9 = .ok (.if_icmp .ge 7, 3) := by decide +kernel
theorem d_mIsPosition_12 : decode b_mIsPosition 12 = .ok (.iconst 1, 1) := by decide +kernel
theorem d_mIsPosition_13 : decode b_mIsPosition 13 = .ok (.goto 4, 3) := by decide +kernel
theorem d_mIsPosition_16 : decode b_mIsPosition 16 = .ok (.iconst 0, 1) := by decide +kernel
theorem d_mIsPosition_17 : decode b_mIsPosition 17 = .ok (.ireturn, 1) := by decide +kernel
theorem d_mIsPlace_0 : decode b_mIsPlace 0 = .ok (.iload_n 1, 1) := by decide +kernel
theorem d_mIsPlace_1 : decode b_mIsPlace 1 = .ok (.ifCond .lt 15, 3) := by decide +kernel
theorem d_mIsPlace_4 : decode b_mIsPlace 4 = .ok (.iload_n 1, 1) := by decide +kernel
theorem d_mIsPlace_5 : decode b_mIsPlace 5 = .ok (.aload_n 0, 1) := by decide +kernel
theorem d_mIsPlace_6 : decode b_mIsPlace 6 = .ok (.getfield 68, 3) := by decide +kernel
theorem d_mIsPlace_9 : decode b_mIsPlace 9 = .ok (.if_icmp .gt 7, 3) := by decide +kernel
theorem d_mIsPlace_12 : decode b_mIsPlace 12 = .ok (.iconst 1, 1) := by decide +kernel
theorem d_mIsPlace_13 : decode b_mIsPlace 13 = .ok (.goto 4, 3) := by decide +kernel
theorem d_mIsPlace_16 : decode b_mIsPlace 16 = .ok (.iconst 0, 1) := by decide +kernel
theorem d_mIsPlace_17 : decode b_mIsPlace 17 = .ok (.ireturn, 1) := by decide +kernel
theorem d_mAt_0 : decode b_mAt 0 = .ok (.aload_n 0, 1) := by decide +kernel
theorem d_mAt_1 : decode b_mAt 1 = .ok (.aload_n 0, 1) := by decide +kernel
theorem d_mAt_2 : decode b_mAt 2 = .ok (.iload_n 1, 1) := by decide +kernel
theorem d_mAt_3 : decode b_mAt 3 = .ok (.invokevirtual 129, 3) := by decide +kernel
theorem d_mAt_6 : decode b_mAt 6 = .ok (.ifCond .eq 7, 3) := by decide +kernel
theorem d_mAt_9 : decode b_mAt 9 = .ok (.iconst 0, 1) := by decide +kernel
theorem d_mAt_10 : decode b_mAt 10 = .ok (.goto 4, 3) := by decide +kernel
theorem d_mAt_13 : decode b_mAt 13 = .ok (.iconst 1, 1) := by decide +kernel
theorem d_mAt_14 : decode b_mAt 14 = .ok (.invokevirtual 50, 3) := by decide +kernel
theorem d_mAt_17 : decode b_mAt 17 = .ok (.ifCond .eq 7, 3) := by decide +kernel
theorem d_mAt_20 : decode b_mAt 20 = .ok (.iconst 0, 1) := by decide +kernel
theorem d_mAt_21 : decode b_mAt 21 = .ok (.goto 9, 3) := by decide +kernel
theorem d_mAt_24 : decode b_mAt 24 = .ok (.aload_n 0, 1) := by decide +kernel
theorem d_mAt_25 : decode b_mAt 25 = .ok (.getfield 32, 3) := by decide +kernel
theorem d_mAt_28 : decode b_mAt 28 = .ok (.iload_n 1, 1) := by decide +kernel
theorem d_mAt_29 : decode b_mAt 29 = .ok (.iaload, 1) := by decide +kernel
theorem d_mAt_30 : decode b_mAt 30 = .ok (.ireturn, 1) := by decide +kernel
theorem d_mKind_0 : decode b_mKind 0 = .ok (.aload_n 0, 1) := by decide +kernel
theorem d_mKind_1 : decode b_mKind 1 = .ok (.aload_n 0, 1) := by decide +kernel
theorem d_mKind_2 : decode b_mKind 2 = .ok (.iload_n 1, 1) := by decide +kernel
theorem d_mKind_3 : decode b_mKind 3 = .ok (.invokevirtual 129, 3) := by decide +kernel
theorem d_mKind_6 : decode b_mKind 6 = .ok (.ifCond .eq 7, 3) := by decide +kernel
theorem d_mKind_9 : decode b_mKind 9 = .ok (.iconst 0, 1) := by decide +kernel
theorem d_mKind_10 : decode b_mKind 10 = .ok (.goto 4, 3) := by decide +kernel
theorem d_mKind_13 : decode b_mKind 13 = .ok (.iconst 1, 1) := by decide +kernel
theorem d_mKind_14 : decode b_mKind 14 = .ok (.invokevirtual 50, 3) := by decide +kernel
theorem d_mKind_17 : decode b_mKind 17 = .ok (.ifCond .eq 7, 3) := by decide +kernel
theorem d_mKind_20 : decode b_mKind 20 = .ok (.iconst 0, 1) := by decide +kernel
theorem d_mKind_21 : decode b_mKind 21 = .ok (.goto 8, 3) := by decide +kernel
theorem d_mKind_24 : decode b_mKind 24 = .ok (.aload_n 0, 1) := by decide +kernel
theorem d_mKind_25 : decode b_mKind 25 = .ok (.iload_n 1, 1) := by decide +kernel
theorem d_mKind_26 : decode b_mKind 26 = .ok (.invokevirtual 71, 3) := by decide +kernel
theorem d_mKind_29 : decode b_mKind 29 = .ok (.ireturn, 1) := by decide +kernel
theorem d_mBreaks_0 : decode b_mBreaks 0 = .ok (.aload_n 0, 1) := by decide +kernel
theorem d_mBreaks_1 : decode b_mBreaks 1 = .ok (.aload_n 0, 1) := by decide +kernel
theorem d_mBreaks_2 : decode b_mBreaks 2 = .ok (.iload_n 1, 1) := by decide +kernel
theorem d_mBreaks_3 : decode b_mBreaks 3 = .ok (.invokevirtual 132, 3) := by decide +kernel
theorem d_mBreaks_6 : decode b_mBreaks 6 = .ok (.ifCond .eq 7, 3) := by decide +kernel
theorem d_mBreaks_9 : decode b_mBreaks 9 = .ok (.iconst 0, 1) := by decide +kernel
theorem d_mBreaks_10 : decode b_mBreaks 10 = .ok (.goto 4, 3) := by decide +kernel
theorem d_mBreaks_13 : decode b_mBreaks 13 = .ok (.iconst 1, 1) := by decide +kernel
theorem d_mBreaks_14 : decode b_mBreaks 14 = .ok (.invokevirtual 50, 3) := by decide +kernel
theorem d_mBreaks_17 : decode b_mBreaks 17 = .ok (.ifCond .eq 5, 3) := by decide +kernel
theorem d_mBreaks_20 : decode b_mBreaks 20 = .ok (.iconst 0, 1) := by decide +kernel
theorem d_mBreaks_21 : decode b_mBreaks 21 = .ok (.ireturn, 1) := by decide +kernel
theorem d_mBreaks_22 : decode b_mBreaks 22 = .ok (.aload_n 0, 1) := by decide +kernel
theorem d_mBreaks_23 : decode b_mBreaks 23 = .ok (.iload_n 1, 1) := by decide +kernel
theorem d_mBreaks_24 : decode b_mBreaks 24 = .ok (.invokevirtual 135, 3) := by decide +kernel
theorem d_mBreaks_27 : decode b_mBreaks 27 = .ok (.pop, 1) := by decide +kernel
theorem d_mBreaks_28 : decode b_mBreaks 28 = .ok (.aload_n 0, 1) := by decide +kernel
theorem d_mBreaks_29 : decode b_mBreaks 29 = .ok (.getfield 80, 3) := by decide +kernel
theorem d_mBreaks_32 : decode b_mBreaks 32 = .ok (.ireturn, 1) := by decide +kernel
theorem d_mRule_0 : decode b_mRule 0 = .ok (.aload_n 0, 1) := by decide +kernel
theorem d_mRule_1 : decode b_mRule 1 = .ok (.aload_n 0, 1) := by decide +kernel
theorem d_mRule_2 : decode b_mRule 2 = .ok (.iload_n 1, 1) := by decide +kernel
theorem d_mRule_3 : decode b_mRule 3 = .ok (.invokevirtual 132, 3) := by decide +kernel
theorem d_mRule_6 : decode b_mRule 6 = .ok (.ifCond .eq 7, 3) := by decide +kernel
theorem d_mRule_9 : decode b_mRule 9 = .ok (.iconst 0, 1) := by decide +kernel
theorem d_mRule_10 : decode b_mRule 10 = .ok (.goto 4, 3) := by decide +kernel
theorem d_mRule_13 : decode b_mRule 13 = .ok (.iconst 1, 1) := by decide +kernel
theorem d_mRule_14 : decode b_mRule 14 = .ok (.invokevirtual 50, 3) := by decide +kernel
theorem d_mRule_17 : decode b_mRule 17 = .ok (.ifCond .eq 7, 3) := by decide +kernel
theorem d_mRule_20 : decode b_mRule 20 = .ok (.iconst 0, 1) := by decide +kernel
theorem d_mRule_21 : decode b_mRule 21 = .ok (.goto 8, 3) := by decide +kernel
theorem d_mRule_24 : decode b_mRule 24 = .ok (.aload_n 0, 1) := by decide +kernel
theorem d_mRule_25 : decode b_mRule 25 = .ok (.iload_n 1, 1) := by decide +kernel
theorem d_mRule_26 : decode b_mRule 26 = .ok (.invokevirtual 135, 3) := by decide +kernel
theorem d_mRule_29 : decode b_mRule 29 = .ok (.ireturn, 1) := by decide +kernel
theorem d_mNext_0 : decode b_mNext 0 = .ok (.aload_n 0, 1) := by decide +kernel
theorem d_mNext_1 : decode b_mNext 1 = .ok (.aload_n 0, 1) := by decide +kernel
theorem d_mNext_2 : decode b_mNext 2 = .ok (.iload_n 1, 1) := by decide +kernel
theorem d_mNext_3 : decode b_mNext 3 = .ok (.invokevirtual 132, 3) := by decide +kernel
theorem d_mNext_6 : decode b_mNext 6 = .ok (.ifCond .eq 7, 3) := by decide +kernel
theorem d_mNext_9 : decode b_mNext 9 = .ok (.iconst 0, 1) := by decide +kernel
theorem d_mNext_10 : decode b_mNext 10 = .ok (.goto 4, 3) := by decide +kernel
theorem d_mNext_13 : decode b_mNext 13 = .ok (.iconst 1, 1) := by decide +kernel
theorem d_mNext_14 : decode b_mNext 14 = .ok (.invokevirtual 50, 3) := by decide +kernel
theorem d_mNext_17 : decode b_mNext 17 = .ok (.ifCond .eq 5, 3) := by decide +kernel
theorem d_mNext_20 : decode b_mNext 20 = .ok (.iconst 0, 1) := by decide +kernel
theorem d_mNext_21 : decode b_mNext 21 = .ok (.ireturn, 1) := by decide +kernel
theorem d_mNext_22 : decode b_mNext 22 = .ok (.iload_n 1, 1) := by decide +kernel
theorem d_mNext_23 : decode b_mNext 23 = .ok (.iconst 1, 1) := by decide +kernel
theorem d_mNext_24 : decode b_mNext 24 = .ok (.iadd, 1) := by decide +kernel
theorem d_mNext_25 : decode b_mNext 25 = .ok (.istore_n 2, 1) := by decide +kernel
theorem d_mNext_26 : decode b_mNext 26 = .ok (.iload_n 2, 1) := by decide +kernel
theorem d_mNext_27 : decode b_mNext 27 = .ok (.aload_n 0, 1) := by decide +kernel
theorem d_mNext_28 : decode b_mNext 28 = .ok (.getfield 68, 3) := by decide +kernel
theorem d_mNext_31 : decode b_mNext 31 = .ok (.if_icmp .gt 24, 3) := by decide +kernel
theorem d_mNext_34 : decode b_mNext 34 = .ok (.aload_n 0, 1) := by decide +kernel
theorem d_mNext_35 : decode b_mNext 35 = .ok (.iload_n 2, 1) := by decide +kernel
theorem d_mNext_36 : decode b_mNext 36 = .ok (.invokevirtual 135, 3) := by decide +kernel
theorem d_mNext_39 : decode b_mNext 39 = .ok (.pop, 1) := by decide +kernel
theorem d_mNext_40 : decode b_mNext 40 = .ok (.aload_n 0, 1) := by decide +kernel
theorem d_mNext_41 : decode b_mNext 41 = .ok (.getfield 80, 3) := by decide +kernel
theorem d_mNext_44 : decode b_mNext 44 = .ok (.ifCond .eq 5, 3) := by decide +kernel
theorem d_mNext_47 : decode b_mNext 47 = .ok (.iload_n 2, 1) := by decide +kernel
theorem d_mNext_48 : decode b_mNext 48 = .ok (.ireturn, 1) := by decide +kernel
theorem d_mNext_49 : decode b_mNext 49 = .ok (.iinc 2 1, 3) := by decide +kernel
theorem d_mNext_52 : decode b_mNext 52 = .ok (.goto (-26), 3) := by decide +kernel
theorem d_mNext_55 : decode b_mNext 55 = .ok (.iconst (-1), 1) := by decide +kernel
theorem d_mNext_56 : decode b_mNext 56 = .ok (.ireturn, 1) := by decide +kernel
theorem d_mFit_0 : decode b_mFit 0 = .ok (.aload_n 0, 1) := by decide +kernel
theorem d_mFit_1 : decode b_mFit 1 = .ok (.aload_n 0, 1) := by decide +kernel
theorem d_mFit_2 : decode b_mFit 2 = .ok (.iload_n 1, 1) := by decide +kernel
theorem d_mFit_3 : decode b_mFit 3 = .ok (.invokevirtual 132, 3) := by decide +kernel
theorem d_mFit_6 : decode b_mFit 6 = .ok (.ifCond .ne 7, 3) := by decide +kernel
theorem d_mFit_9 : decode b_mFit 9 = .ok (.iconst 1, 1) := by decide +kernel
theorem d_mFit_10 : decode b_mFit 10 = .ok (.goto 20, 3) := by decide +kernel
theorem d_mFit_13 : decode b_mFit 13 = .ok (.iload_n 2, 1) := by decide +kernel
theorem d_mFit_14 : decode b_mFit 14 = .ok (.iconst 1, 1) := by decide +kernel
theorem d_mFit_15 : decode b_mFit 15 = .ok (.if_icmp .lt 10, 3) := by decide +kernel
theorem d_mFit_18 : decode b_mFit 18 = .ok (.iload_n 2, 1) := by decide +kernel
theorem d_mFit_19 : decode b_mFit 19 = .ok (.sipush 2000, 3) := by decide +kernel
theorem d_mFit_22 : decode b_mFit 22 = .ok (.if_icmp .le 7, 3) := by decide +kernel
theorem d_mFit_25 : decode b_mFit 25 = .ok (.iconst 2, 1) := by decide +kernel
theorem d_mFit_26 : decode b_mFit 26 = .ok (.goto 4, 3) := by decide +kernel
theorem d_mFit_29 : decode b_mFit 29 = .ok (.iconst 0, 1) := by decide +kernel
theorem d_mFit_30 : decode b_mFit 30 = .ok (.invokevirtual 50, 3) := by decide +kernel
theorem d_mFit_33 : decode b_mFit 33 = .ok (.ifCond .eq 5, 3) := by decide +kernel
theorem d_mFit_36 : decode b_mFit 36 = .ok (.iconst 0, 1) := by decide +kernel
theorem d_mFit_37 : decode b_mFit 37 = .ok (.ireturn, 1) := by decide +kernel
theorem d_mFit_38 : decode b_mFit 38 = .ok (.iload_n 1, 1) := by decide +kernel
theorem d_mFit_39 : decode b_mFit 39 = .ok (.aload_n 0, 1) := by decide +kernel
theorem d_mFit_40 : decode b_mFit 40 = .ok (.getfield 68, 3) := by decide +kernel
theorem d_mFit_43 : decode b_mFit 43 = .ok (.if_icmp .ne 5, 3) := by decide +kernel
theorem d_mFit_46 : decode b_mFit 46 = .ok (.iconst 0, 1) := by decide +kernel
theorem d_mFit_47 : decode b_mFit 47 = .ok (.ireturn, 1) := by decide +kernel
theorem d_mFit_48 : decode b_mFit 48 = .ok (.iconst (-1), 1) := by decide +kernel
theorem d_mFit_49 : decode b_mFit 49 = .ok (.istore_n 3, 1) := by decide +kernel
theorem d_mFit_50 : decode b_mFit 50 = .ok (.aload_n 0, 1) := by decide +kernel
theorem d_mFit_51 : decode b_mFit 51 = .ok (.iconst 0, 1) := by decide +kernel
theorem d_mFit_52 : decode b_mFit 52 = .ok (.putfield 80, 3) := by decide +kernel
theorem d_mFit_55 : decode b_mFit 55 = .ok (.iload_n 1, 1) := by decide +kernel
theorem d_mFit_56 : decode b_mFit 56 = .ok (.iconst 1, 1) := by decide +kernel
theorem d_mFit_57 : decode b_mFit 57 = .ok (.iadd, 1) := by decide +kernel
theorem d_mFit_58 : decode b_mFit 58 = .ok (.istore 4, 2) := by decide +kernel
theorem d_mFit_60 : decode b_mFit 60 = .ok (.iload 4, 2) := by decide +kernel
theorem d_mFit_62 : decode b_mFit 62 = .ok (.aload_n 0, 1) := by decide +kernel
theorem d_mFit_63 : decode b_mFit 63 = .ok (.getfield 68, 3) := by decide +kernel
theorem d_mFit_66 : decode b_mFit 66 = .ok (.if_icmp .gt 76, 3) := by decide +kernel
theorem d_mFit_69 : decode b_mFit 69 = .ok (.aload_n 0, 1) := by decide +kernel
theorem d_mFit_70 : decode b_mFit 70 = .ok (.getfield 80, 3) := by decide +kernel
theorem d_mFit_73 : decode b_mFit 73 = .ok (.iconst 2, 1) := by decide +kernel
theorem d_mFit_74 : decode b_mFit 74 = .ok (.if_icmp .eq 68, 3) := by decide +kernel
theorem d_mFit_77 : decode b_mFit 77 = .ok (.iload 4, 2) := by decide +kernel
theorem d_mFit_79 : decode b_mFit 79 = .ok (.istore 5, 2) := by decide +kernel
theorem d_mFit_81 : decode b_mFit 81 = .ok (.iload 5, 2) := by decide +kernel
theorem d_mFit_83 : decode b_mFit 83 = .ok (.iload_n 1, 1) := by decide +kernel
theorem d_mFit_84 : decode b_mFit 84 = .ok (.if_icmp .le 23, 3) := by decide +kernel
theorem d_mFit_87 : decode b_mFit 87 = .ok (.aload_n 0, 1) := by decide +kernel
theorem d_mFit_88 : decode b_mFit 88 = .ok (.iload 5, 2) := by decide +kernel
theorem d_mFit_90 : decode b_mFit 90 = .ok (.iconst 1, 1) := by decide +kernel
theorem d_mFit_91 : decode b_mFit 91 = .ok (.isub, 1) := by decide +kernel
theorem d_mFit_92 : decode b_mFit 92 = .ok (.invokevirtual 71, 3) := by decide +kernel
theorem d_mFit_95 : decode b_mFit 95 = .ok (.invokestatic 138, 3) := by decide +kernel
theorem d_mFit_98 : decode b_mFit 98 = .ok (.ifCond .eq 9, 3) := by decide +kernel
theorem d_mFit_101 : decode b_mFit 101 = .ok (.iinc 5 (-1), 3) := by decide +kernel
theorem d_mFit_104 : decode b_mFit 104 = .ok (.goto (-23), 3) := by decide +kernel
theorem d_mFit_107 : decode b_mFit 107 = .ok (.aload_n 0, 1) := by decide +kernel
theorem d_mFit_108 : decode b_mFit 108 = .ok (.iload 4, 2) := by decide +kernel
theorem d_mFit_110 : decode b_mFit 110 = .ok (.invokevirtual 135, 3) := by decide +kernel
theorem d_mFit_113 : decode b_mFit 113 = .ok (.pop, 1) := by decide +kernel
theorem d_mFit_114 : decode b_mFit 114 = .ok (.aload_n 0, 1) := by decide +kernel
theorem d_mFit_115 : decode b_mFit 115 = .ok (.getfield 80, 3) := by decide +kernel
theorem d_mFit_118 : decode b_mFit 118 = .ok (.ifCond .eq 16, 3) := by decide +kernel
theorem d_mFit_121 : decode b_mFit 121 = .ok (.iload 5, 2) := by decide +kernel
theorem d_mFit_123 : decode b_mFit 123 = .ok (.iload_n 1, 1) := by decide +kernel
theorem d_mFit_124 : decode b_mFit 124 = .ok (.isub, 1) := by decide +kernel
theorem d_mFit_125 : decode b_mFit 125 = .ok (.iload_n 2, 1) := by decide +kernel
theorem d_mFit_126 : decode b_mFit 126 = .ok (.if_icmp .gt 8, 3) := by decide +kernel
theorem d_mFit_129 : decode b_mFit 129 = .ok (.iload 4, 2) := by decide +kernel
theorem d_mFit_131 : decode b_mFit 131 = .ok (.goto 4, 3) := by decide +kernel
theorem d_mFit_134 : decode b_mFit 134 = .ok (.iload_n 3, 1) := by decide +kernel
theorem d_mFit_135 : decode b_mFit 135 = .ok (.istore_n 3, 1) := by decide +kernel
theorem d_mFit_136 : decode b_mFit 136 = .ok (.iinc 4 1, 3) := by decide +kernel
theorem d_mFit_139 : decode b_mFit 139 = .ok (.goto (-79), 3) := by decide +kernel
theorem d_mFit_142 : decode b_mFit 142 = .ok (.iload_n 3, 1) := by decide +kernel
theorem d_mFit_143 : decode b_mFit 143 = .ok (.ifCond .ge 7, 3) := by decide +kernel
theorem d_mFit_146 : decode b_mFit 146 = .ok (.iload_n 2, 1) := by decide +kernel
theorem d_mFit_147 : decode b_mFit 147 = .ok (.goto 6, 3) := by decide +kernel
theorem d_mFit_150 : decode b_mFit 150 = .ok (.iload_n 3, 1) := by decide +kernel
theorem d_mFit_151 : decode b_mFit 151 = .ok (.iload_n 1, 1) := by decide +kernel
theorem d_mFit_152 : decode b_mFit 152 = .ok (.isub, 1) := by decide +kernel
theorem d_mFit_153 : decode b_mFit 153 = .ok (.ireturn, 1) := by decide +kernel
theorem d_mCount_0 : decode b_mCount 0 = .ok (.aload_n 0, 1) := by decide +kernel
theorem d_mCount_1 : decode b_mCount 1 = .ok (.iconst 0, 1) := by decide +kernel
theorem d_mCount_2 : decode b_mCount 2 = .ok (.putfield 38, 3) := by decide +kernel
theorem d_mCount_5 : decode b_mCount 5 = .ok (.iload_n 1, 1) := by decide +kernel
theorem d_mCount_6 : decode b_mCount 6 = .ok (.ifCond .lt 8, 3) := by decide +kernel
theorem d_mCount_9 : decode b_mCount 9 = .ok (.iload_n 1, 1) := by decide +kernel
theorem d_mCount_10 : decode b_mCount 10 = .ok (.iconst 2, 1) := by decide +kernel
theorem d_mCount_11 : decode b_mCount 11 = .ok (.if_icmp .le 5, 3) := by decide +kernel
