theorem d_law_0 : decode b_law 0 = .ok (.new 8, 3) := by decide +kernel
theorem d_law_3 : decode b_law 3 = .ok (.dup, 1) := by decide +kernel
theorem d_law_4 : decode b_law 4 = .ok (.invokespecial 50, 3) := by decide +kernel
theorem d_law_7 : decode b_law 7 = .ok (.astore_n 1, 1) := by decide +kernel
theorem d_law_8 : decode b_law 8 = .ok (.new 51, 3) := by decide +kernel
theorem d_law_11 : decode b_law 11 = .ok (.dup, 1) := by decide +kernel
theorem d_law_12 : decode b_law 12 = .ok (.invokespecial 53, 3) := by decide +kernel
theorem d_law_15 : decode b_law 15 = .ok (.astore_n 2, 1) := by decide +kernel
theorem d_law_16 : decode b_law 16 = .ok (.iconst 1, 1) := by decide +kernel
theorem d_law_17 : decode b_law 17 = .ok (.newarray .long, 2) := by decide +kernel
theorem d_law_19 : decode b_law 19 = .ok (.astore_n 3, 1) := by decide +kernel
theorem d_law_20 : decode b_law 20 = .ok (.iconst 0, 1) := by decide +kernel
theorem d_law_21 : decode b_law 21 = .ok (.istore 4, 2) := by decide +kernel
theorem d_law_23 : decode b_law 23 = .ok (.iload 4, 2) := by decide +kernel
theorem d_law_25 : decode b_law 25 = .ok (.aload_n 0, 1) := by decide +kernel
theorem d_law_26 : decode b_law 26 = .ok (.arraylength, 1) := by decide +kernel
theorem d_law_27 : decode b_law 27 = .ok (.bipush 6, 2) := by decide +kernel
theorem d_law_29 : decode b_law 29 = .ok (.isub, 1) := by decide +kernel
theorem d_law_30 : decode b_law 30 = .ok (.if_icmp .gt 867, 3) := by decide +kernel
theorem d_law_33 : decode b_law 33 = .ok (.aload_n 0, 1) := by decide +kernel
theorem d_law_34 : decode b_law 34 = .ok (.iload 4, 2) := by decide +kernel
theorem d_law_36 : decode b_law 36 = .ok (.iaload, 1) := by decide +kernel
theorem d_law_37 : decode b_law 37 = .ok (.bipush 15, 2) := by decide +kernel
theorem d_law_39 : decode b_law 39 = .ok (.iand, 1) := by decide +kernel
theorem d_law_40 : decode b_law 40 = .ok (.tableswitch 851 0 12 #[68, 128, 216, 257, 361, 465, 478, 534, 590, 646, 702, 758, 826], 68) := by decide +kernel
theorem d_law_108 : decode b_law 108 = .ok (.aload_n 1, 1) := by decide +kernel
theorem d_law_109 : decode b_law 109 = .ok (.aload_n 0, 1) := by decide +kernel
theorem d_law_110 : decode b_law 110 = .ok (.iload 4, 2) := by decide +kernel
theorem d_law_112 : decode b_law 112 = .ok (.iconst 1, 1) := by decide +kernel
theorem d_law_113 : decode b_law 113 = .ok (.iadd, 1) := by decide +kernel
theorem d_law_114 : decode b_law 114 = .ok (.iaload, 1) := by decide +kernel
theorem d_law_115 : decode b_law 115 = .ok (.aload_n 0, 1) := by decide +kernel
theorem d_law_116 : decode b_law 116 = .ok (.iload 4, 2) := by decide +kernel
theorem d_law_118 : decode b_law 118 = .ok (.iconst 2, 1) := by decide +kernel
theorem d_law_119 : decode b_law 119 = .ok (.iadd, 1) := by decide +kernel
theorem d_law_120 : decode b_law 120 = .ok (.iaload, 1) := by decide +kernel
theorem d_law_121 : decode b_law 121 = .ok (.aload_n 0, 1) := by decide +kernel
theorem d_law_122 : decode b_law 122 = .ok (.iload 4, 2) := by decide +kernel
theorem d_law_124 : decode b_law 124 = .ok (.iconst 3, 1) := by decide +kernel
theorem d_law_125 : decode b_law 125 = .ok (.iadd, 1) := by decide +kernel
theorem d_law_126 : decode b_law 126 = .ok (.iaload, 1) := by decide +kernel
theorem d_law_127 : decode b_law 127 = .ok (.invokestatic 54, 3) := by decide +kernel
theorem d_law_130 : decode b_law 130 = .ok (.istore 5, 2) := by decide +kernel
theorem d_law_132 : decode b_law 132 = .ok (.aload_n 2, 1) := by decide +kernel
theorem d_law_133 : decode b_law 133 = .ok (.aload_n 0, 1) := by decide +kernel
theorem d_law_134 : decode b_law 134 = .ok (.iload 4, 2) := by decide +kernel
theorem d_law_136 : decode b_law 136 = .ok (.iconst 1, 1) := by decide +kernel
theorem d_law_137 : decode b_law 137 = .ok (.iadd, 1) := by decide +kernel
theorem d_law_138 : decode b_law 138 = .ok (.iaload, 1) := by decide +kernel
theorem d_law_139 : decode b_law 139 = .ok (.aload_n 0, 1) := by decide +kernel
theorem d_law_140 : decode b_law 140 = .ok (.iload 4, 2) := by decide +kernel
theorem d_law_142 : decode b_law 142 = .ok (.iconst 2, 1) := by decide +kernel
theorem d_law_143 : decode b_law 143 = .ok (.iadd, 1) := by decide +kernel
theorem d_law_144 : decode b_law 144 = .ok (.iaload, 1) := by decide +kernel
theorem d_law_145 : decode b_law 145 = .ok (.aload_n 0, 1) := by decide +kernel
theorem d_law_146 : decode b_law 146 = .ok (.iload 4, 2) := by decide +kernel
theorem d_law_148 : decode b_law 148 = .ok (.iconst 3, 1) := by decide +kernel
theorem d_law_149 : decode b_law 149 = .ok (.iadd, 1) := by decide +kernel
theorem d_law_150 : decode b_law 150 = .ok (.iaload, 1) := by decide +kernel
theorem d_law_151 : decode b_law 151 = .ok (.invokevirtual 59, 3) := by decide +kernel
theorem d_law_154 : decode b_law 154 = .ok (.aload_n 2, 1) := by decide +kernel
theorem d_law_155 : decode b_law 155 = .ok (.invokevirtual 60, 3) := by decide +kernel
theorem d_law_158 : decode b_law 158 = .ok (.iload 5, 2) := by decide +kernel
theorem d_law_160 : decode b_law 160 = .ok (.if_icmp .eq 5, 3) := by decide +kernel
theorem d_law_163 : decode b_law 163 = .ok (.iconst 0, 1) := by decide +kernel
theorem d_law_164 : decode b_law 164 = .ok (.ireturn, 1) := by decide +kernel
theorem d_law_165 : decode b_law 165 = .ok (.goto 726, 3) := by decide +kernel
theorem d_law_168 : decode b_law 168 = .ok (.aload_n 1, 1) := by decide +kernel
theorem d_law_169 : decode b_law 169 = .ok (.aload_n 0, 1) := by decide +kernel
theorem d_law_170 : decode b_law 170 = .ok (.iload 4, 2) := by decide +kernel
theorem d_law_172 : decode b_law 172 = .ok (.iconst 1, 1) := by decide +kernel
theorem d_law_173 : decode b_law 173 = .ok (.iadd, 1) := by decide +kernel
theorem d_law_174 : decode b_law 174 = .ok (.iaload, 1) := by decide +kernel
theorem d_law_175 : decode b_law 175 = .ok (.aload_n 0, 1) := by decide +kernel
theorem d_law_176 : decode b_law 176 = .ok (.iload 4, 2) := by decide +kernel
theorem d_law_178 : decode b_law 178 = .ok (.iconst 2, 1) := by decide +kernel
theorem d_law_179 : decode b_law 179 = .ok (.iadd, 1) := by decide +kernel
theorem d_law_180 : decode b_law 180 = .ok (.iaload, 1) := by decide +kernel
theorem d_law_181 : decode b_law 181 = .ok (.aload_n 0, 1) := by decide +kernel
theorem d_law_182 : decode b_law 182 = .ok (.iload 4, 2) := by decide +kernel
theorem d_law_184 : decode b_law 184 = .ok (.iconst 3, 1) := by decide +kernel
theorem d_law_185 : decode b_law 185 = .ok (.iadd, 1) := by decide +kernel
theorem d_law_186 : decode b_law 186 = .ok (.iaload, 1) := by decide +kernel
theorem d_law_187 : decode b_law 187 = .ok (.aload_n 0, 1) := by decide +kernel
theorem d_law_188 : decode b_law 188 = .ok (.iload 4, 2) := by decide +kernel
theorem d_law_190 : decode b_law 190 = .ok (.iconst 4, 1) := by decide +kernel
theorem d_law_191 : decode b_law 191 = .ok (.iadd, 1) := by decide +kernel
theorem d_law_192 : decode b_law 192 = .ok (.iaload, 1) := by decide +kernel
theorem d_law_193 : decode b_law 193 = .ok (.ifCond .eq 7, 3) := by decide +kernel
theorem d_law_196 : decode b_law 196 = .ok (.iconst 1, 1) := by decide +kernel
theorem d_law_197 : decode b_law 197 = .ok (.goto 4, 3) := by decide +kernel
theorem d_law_200 : decode b_law 200 = .ok (.iconst 0, 1) := by decide +kernel
theorem d_law_201 : decode b_law 201 = .ok (.invokestatic 64, 3) := by decide +kernel
theorem d_law_204 : decode b_law 204 = .ok (.istore 5, 2) := by decide +kernel
theorem d_law_206 : decode b_law 206 = .ok (.aload_n 2, 1) := by decide +kernel
theorem d_law_207 : decode b_law 207 = .ok (.aload_n 0, 1) := by decide +kernel
theorem d_law_208 : decode b_law 208 = .ok (.iload 4, 2) := by decide +kernel
theorem d_law_210 : decode b_law 210 = .ok (.iconst 1, 1) := by decide +kernel
theorem d_law_211 : decode b_law 211 = .ok (.iadd, 1) := by decide +kernel
theorem d_law_212 : decode b_law 212 = .ok (.iaload, 1) := by decide +kernel
theorem d_law_213 : decode b_law 213 = .ok (.aload_n 0, 1) := by decide +kernel
theorem d_law_214 : decode b_law 214 = .ok (.iload 4, 2) := by decide +kernel
theorem d_law_216 : decode b_law 216 = .ok (.iconst 2, 1) := by decide +kernel
theorem d_law_217 : decode b_law 217 = .ok (.iadd, 1) := by decide +kernel
theorem d_law_218 : decode b_law 218 = .ok (.iaload, 1) := by decide +kernel
theorem d_law_219 : decode b_law 219 = .ok (.aload_n 0, 1) := by decide +kernel
theorem d_law_220 : decode b_law 220 = .ok (.iload 4, 2) := by decide +kernel
theorem d_law_222 : decode b_law 222 = .ok (.iconst 3, 1) := by decide +kernel
theorem d_law_223 : decode b_law 223 = .ok (.iadd, 1) := by decide +kernel
theorem d_law_224 : decode b_law 224 = .ok (.iaload, 1) := by decide +kernel
theorem d_law_225 : decode b_law 225 = .ok (.aload_n 0, 1) := by decide +kernel
theorem d_law_226 : decode b_law 226 = .ok (.iload 4, 2) := by decide +kernel
theorem d_law_228 : decode b_law 228 = .ok (.iconst 4, 1) := by decide +kernel
theorem d_law_229 : decode b_law 229 = .ok (.iadd, 1) := by decide +kernel
theorem d_law_230 : decode b_law 230 = .ok (.iaload, 1) := by decide +kernel
theorem d_law_231 : decode b_law 231 = .ok (.ifCond .eq 7, 3) := by decide +kernel
theorem d_law_234 : decode b_law 234 = .ok (.iconst 1, 1) := by decide +kernel
theorem d_law_235 : decode b_law 235 = .ok (.goto 4, 3) := by decide +kernel
theorem d_law_238 : decode b_law 238 = .ok (.iconst 0, 1) := by decide +kernel
theorem d_law_239 : decode b_law 239 = .ok (.invokevirtual 67, 3) := by decide +kernel
theorem d_law_242 : decode b_law 242 = .ok (.aload_n 2, 1) := by decide +kernel
theorem d_law_243 : decode b_law 243 = .ok (.invokevirtual 60, 3) := by decide +kernel
theorem d_law_246 : decode b_law 246 = .ok (.iload 5, 2) := by decide +kernel
theorem d_law_248 : decode b_law 248 = .ok (.if_icmp .eq 5, 3) := by decide +kernel
theorem d_law_251 : decode b_law 251 = .ok (.iconst 0, 1) := by decide +kernel
theorem d_law_252 : decode b_law 252 = .ok (.ireturn, 1) := by decide +kernel
theorem d_law_253 : decode b_law 253 = .ok (.goto 638, 3) := by decide +kernel
theorem d_law_256 : decode b_law 256 = .ok (.aload_n 1, 1) := by decide +kernel
theorem d_law_257 : decode b_law 257 = .ok (.aload_n 0, 1) := by decide +kernel
theorem d_law_258 : decode b_law 258 = .ok (.iload 4, 2) := by decide +kernel
theorem d_law_260 : decode b_law 260 = .ok (.iconst 1, 1) := by decide +kernel
theorem d_law_261 : decode b_law 261 = .ok (.iadd, 1) := by decide +kernel
theorem d_law_262 : decode b_law 262 = .ok (.iaload, 1) := by decide +kernel
theorem d_law_263 : decode b_law 263 = .ok (.ifCond .eq 7, 3) := by decide +kernel
theorem d_law_266 : decode b_law 266 = .ok (.iconst 1, 1) := by decide +kernel
theorem d_law_267 : decode b_law 267 = .ok (.goto 4, 3) := by decide +kernel
theorem d_law_270 : decode b_law 270 = .ok (.iconst 0, 1) := by decide +kernel
theorem d_law_271 : decode b_law 271 = .ok (.invokevirtual 68, 3) := by decide +kernel
theorem d_law_274 : decode b_law 274 = .ok (.aload_n 2, 1) := by decide +kernel
theorem d_law_275 : decode b_law 275 = .ok (.aload_n 0, 1) := by decide +kernel
theorem d_law_276 : decode b_law 276 = .ok (.iload 4, 2) := by decide +kernel
theorem d_law_278 : decode b_law 278 = .ok (.iconst 1, 1) := by decide +kernel
theorem d_law_279 : decode b_law 279 = .ok (.iadd, 1) := by decide +kernel
theorem d_law_280 : decode b_law 280 = .ok (.iaload, 1) := by decide +kernel
theorem d_law_281 : decode b_law 281 = .ok (.ifCond .eq 7, 3) := by decide +kernel
theorem d_law_284 : decode b_law 284 = .ok (.iconst 1, 1) := by decide +kernel
theorem d_law_285 : decode b_law 285 = .ok (.goto 4, 3) := by decide +kernel
theorem d_law_288 : decode b_law 288 = .ok (.iconst 0, 1) := by decide +kernel
theorem d_law_289 : decode b_law 289 = .ok (.invokevirtual 72, 3) := by decide +kernel
theorem d_law_292 : decode b_law 292 = .ok (.if_icmp .eq 599, 3) := by decide +kernel
theorem d_law_295 : decode b_law 295 = .ok (.iconst 0, 1) := by decide +kernel
theorem d_law_296 : decode b_law 296 = .ok (.ireturn, 1) := by decide +kernel
theorem d_law_297 : decode b_law 297 = .ok (.aload_n 1, 1) := by decide +kernel
theorem d_law_298 : decode b_law 298 = .ok (.aload_n 0, 1) := by decide +kernel
theorem d_law_299 : decode b_law 299 = .ok (.iload 4, 2) := by decide +kernel
theorem d_law_301 : decode b_law 301 = .ok (.iconst 1, 1) := by decide +kernel
theorem d_law_302 : decode b_law 302 = .ok (.iadd, 1) := by decide +kernel
theorem d_law_303 : decode b_law 303 = .ok (.iaload, 1) := by decide +kernel
theorem d_law_304 : decode b_law 304 = .ok (.aload_n 0, 1) := by decide +kernel
theorem d_law_305 : decode b_law 305 = .ok (.iload 4, 2) := by decide +kernel
theorem d_law_307 : decode b_law 307 = .ok (.iconst 2, 1) := by decide +kernel
theorem d_law_308 : decode b_law 308 = .ok (.iadd, 1) := by decide +kernel
theorem d_law_309 : decode b_law 309 = .ok (.iaload, 1) := by decide +kernel
theorem d_law_310 : decode b_law 310 = .ok (.aload_n 0, 1) := by decide +kernel
theorem d_law_311 : decode b_law 311 = .ok (.iload 4, 2) := by decide +kernel
theorem d_law_313 : decode b_law 313 = .ok (.iconst 3, 1) := by decide +kernel
theorem d_law_314 : decode b_law 314 = .ok (.iadd, 1) := by decide +kernel
theorem d_law_315 : decode b_law 315 = .ok (.iaload, 1) := by decide +kernel
theorem d_law_316 : decode b_law 316 = .ok (.aload_n 0, 1) := by decide +kernel
theorem d_law_317 : decode b_law 317 = .ok (.iload 4, 2) := by decide +kernel
theorem d_law_319 : decode b_law 319 = .ok (.iconst 4, 1) := by decide +kernel
theorem d_law_320 : decode b_law 320 = .ok (.iadd, 1) := by decide +kernel
theorem d_law_321 : decode b_law 321 = .ok (.iaload, 1) := by decide +kernel
theorem d_law_322 : decode b_law 322 = .ok (.aload_n 0, 1) := by decide +kernel
theorem d_law_323 : decode b_law 323 = .ok (.iload 4, 2) := by decide +kernel
theorem d_law_325 : decode b_law 325 = .ok (.iconst 5, 1) := by decide +kernel
theorem d_law_326 : decode b_law 326 = .ok (.iadd, 1) := by decide +kernel
theorem d_law_327 : decode b_law 327 = .ok (.iaload, 1) := by decide +kernel
theorem d_law_328 : decode b_law 328 = .ok (.aload_n 3, 1) := by decide +kernel
theorem d_law_329 : decode b_law 329 = .ok (.invokestatic 73, 3) := by decide +kernel
theorem d_law_332 : decode b_law 332 = .ok (.istore 5, 2) := by decide +kernel
theorem d_law_334 : decode b_law 334 = .ok (.aload_n 2, 1) := by decide +kernel
theorem d_law_335 : decode b_law 335 = .ok (.aload_n 0, 1) := by decide +kernel
theorem d_law_336 : decode b_law 336 = .ok (.iload 4, 2) := by decide +kernel
theorem d_law_338 : decode b_law 338 = .ok (.iconst 1, 1) := by decide +kernel
theorem d_law_339 : decode b_law 339 = .ok (.iadd, 1) := by decide +kernel
theorem d_law_340 : decode b_law 340 = .ok (.iaload, 1) := by decide +kernel
theorem d_law_341 : decode b_law 341 = .ok (.aload_n 0, 1) := by decide +kernel
theorem d_law_342 : decode b_law 342 = .ok (.iload 4, 2) := by decide +kernel
theorem d_law_344 : decode b_law 344 = .ok (.iconst 2, 1) := by decide +kernel
