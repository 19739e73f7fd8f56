abbrev b_hProperty : ByteArray := method_3_code
def y_hProperty : MethodName := ⟨"BreakPlacesLaw", "property", "(LBreakPlaces;III)I"⟩
abbrev b_hMark : ByteArray := method_4_code
def y_hMark : MethodName := ⟨"BreakPlacesLaw", "mark", "(LBreakPlaces;IIIZ)I"⟩
abbrev b_hAdd : ByteArray := method_5_code
def y_hAdd : MethodName := ⟨"BreakPlacesLaw", "add", "(LBreakPlaces;IIIII[J)I"⟩
abbrev b_hReplace : ByteArray := method_6_code
def y_hReplace : MethodName := ⟨"BreakPlacesLaw", "replace", "(LBreakPlaces;IIIII[J)I"⟩
abbrev b_hAt : ByteArray := method_7_code
def y_hAt : MethodName := ⟨"BreakPlacesLaw", "at", "(LBreakPlaces;I[J)I"⟩
abbrev b_hKind : ByteArray := method_8_code
def y_hKind : MethodName := ⟨"BreakPlacesLaw", "kind", "(LBreakPlaces;I[J)I"⟩
abbrev b_hBreaks : ByteArray := method_9_code
def y_hBreaks : MethodName := ⟨"BreakPlacesLaw", "breaks", "(LBreakPlaces;I[J)I"⟩
abbrev b_hRule : ByteArray := method_10_code
def y_hRule : MethodName := ⟨"BreakPlacesLaw", "rule", "(LBreakPlaces;I[J)I"⟩
abbrev b_hNext : ByteArray := method_11_code
def y_hNext : MethodName := ⟨"BreakPlacesLaw", "next", "(LBreakPlaces;I[J)I"⟩
abbrev b_hFit : ByteArray := method_12_code
def y_hFit : MethodName := ⟨"BreakPlacesLaw", "fit", "(LBreakPlaces;II[J)I"⟩
theorem d_hProperty_0 : decode b_hProperty 0 = .ok (.aload_n 0, 1) := by decide +kernel
theorem d_hProperty_1 : decode b_hProperty 1 = .ok (.iload_n 1, 1) := by decide +kernel
theorem d_hProperty_2 : decode b_hProperty 2 = .ok (.iload_n 2, 1) := by decide +kernel
theorem d_hProperty_3 : decode b_hProperty 3 = .ok (.iload_n 3, 1) := by decide +kernel
theorem d_hProperty_4 : decode b_hProperty 4 = .ok (.invokevirtual 7, 3) := by decide +kernel
theorem d_hProperty_7 : decode b_hProperty 7 = .ok (.goto 11, 3) := by decide +kernel
theorem d_hProperty_10 : decode b_hProperty 10 = .ok (.astore 4, 2) := by decide +kernel
theorem d_hProperty_12 : decode b_hProperty 12 = .ok (.iconst 1, 1) := by decide +kernel
theorem d_hProperty_13 : decode b_hProperty 13 = .ok (.ireturn, 1) := by decide +kernel
theorem d_hProperty_14 : decode b_hProperty 14 = .ok (.astore 4, 2) := by decide +kernel
theorem d_hProperty_16 : decode b_hProperty 16 = .ok (.iconst 2, 1) := by decide +kernel
theorem d_hProperty_17 : decode b_hProperty 17 = .ok (.ireturn, 1) := by decide +kernel
theorem d_hProperty_18 : decode b_hProperty 18 = .ok (.iconst 0, 1) := by decide +kernel
theorem d_hProperty_19 : decode b_hProperty 19 = .ok (.ireturn, 1) := by decide +kernel
theorem d_hMark_0 : decode b_hMark 0 = .ok (.aload_n 0, 1) := by decide +kernel
theorem d_hMark_1 : decode b_hMark 1 = .ok (.iload_n 1, 1) := by decide +kernel
theorem d_hMark_2 : decode b_hMark 2 = .ok (.iload_n 2, 1) := by decide +kernel
theorem d_hMark_3 : decode b_hMark 3 = .ok (.iload_n 3, 1) := by decide +kernel
theorem d_hMark_4 : decode b_hMark 4 = .ok (.iload 4, 2) := by decide +kernel
theorem d_hMark_6 : decode b_hMark 6 = .ok (.invokevirtual 17, 3) := by decide +kernel
theorem d_hMark_9 : decode b_hMark 9 = .ok (.goto 11, 3) := by decide +kernel
theorem d_hMark_12 : decode b_hMark 12 = .ok (.astore 5, 2) := by decide +kernel
theorem d_hMark_14 : decode b_hMark 14 = .ok (.iconst 1, 1) := by decide +kernel
theorem d_hMark_15 : decode b_hMark 15 = .ok (.ireturn, 1) := by decide +kernel
theorem d_hMark_16 : decode b_hMark 16 = .ok (.astore 5, 2) := by decide +kernel
theorem d_hMark_18 : decode b_hMark 18 = .ok (.iconst 2, 1) := by decide +kernel
theorem d_hMark_19 : decode b_hMark 19 = .ok (.ireturn, 1) := by decide +kernel
theorem d_hMark_20 : decode b_hMark 20 = .ok (.iconst 0, 1) := by decide +kernel
theorem d_hMark_21 : decode b_hMark 21 = .ok (.ireturn, 1) := by decide +kernel
theorem d_hAdd_0 : decode b_hAdd 0 = .ok (.aload 6, 2) := by decide +kernel
theorem d_hAdd_2 : decode b_hAdd 2 = .ok (.iconst 0, 1) := by decide +kernel
theorem d_hAdd_3 : decode b_hAdd 3 = .ok (.aload_n 0, 1) := by decide +kernel
theorem d_hAdd_4 : decode b_hAdd 4 = .ok (.iload_n 1, 1) := by decide +kernel
theorem d_hAdd_5 : decode b_hAdd 5 = .ok (.iload_n 2, 1) := by decide +kernel
theorem d_hAdd_6 : decode b_hAdd 6 = .ok (.iload_n 3, 1) := by decide +kernel
theorem d_hAdd_7 : decode b_hAdd 7 = .ok (.iload 4, 2) := by decide +kernel
theorem d_hAdd_9 : decode b_hAdd 9 = .ok (.iload 5, 2) := by decide +kernel
theorem d_hAdd_11 : decode b_hAdd 11 = .ok (.invokevirtual 21, 3) := by decide +kernel
theorem d_hAdd_14 : decode b_hAdd 14 = .ok (.i2l, 1) := by decide +kernel
theorem d_hAdd_15 : decode b_hAdd 15 = .ok (.lastore, 1) := by decide +kernel
theorem d_hAdd_16 : decode b_hAdd 16 = .ok (.goto 11, 3) := by decide +kernel
theorem d_hAdd_19 : decode b_hAdd 19 = .ok (.astore 7, 2) := by decide +kernel
theorem d_hAdd_21 : decode b_hAdd 21 = .ok (.iconst 1, 1) := by decide +kernel
theorem d_hAdd_22 : decode b_hAdd 22 = .ok (.ireturn, 1) := by decide +kernel
theorem d_hAdd_23 : decode b_hAdd 23 = .ok (.astore 7, 2) := by decide +kernel
theorem d_hAdd_25 : decode b_hAdd 25 = .ok (.iconst 2, 1) := by decide +kernel
theorem d_hAdd_26 : decode b_hAdd 26 = .ok (.ireturn, 1) := by decide +kernel
theorem d_hAdd_27 : decode b_hAdd 27 = .ok (.iconst 0, 1) := by decide +kernel
theorem d_hAdd_28 : decode b_hAdd 28 = .ok (.ireturn, 1) := by decide +kernel
theorem d_hReplace_0 : decode b_hReplace 0 = .ok (.aload 6, 2) := by decide +kernel
theorem d_hReplace_2 : decode b_hReplace 2 = .ok (.iconst 0, 1) := by decide +kernel
theorem d_hReplace_3 : decode b_hReplace 3 = .ok (.aload_n 0, 1) := by decide +kernel
theorem d_hReplace_4 : decode b_hReplace 4 = .ok (.iload_n 1, 1) := by decide +kernel
theorem d_hReplace_5 : decode b_hReplace 5 = .ok (.iload_n 2, 1) := by decide +kernel
theorem d_hReplace_6 : decode b_hReplace 6 = .ok (.iload_n 3, 1) := by decide +kernel
theorem d_hReplace_7 : decode b_hReplace 7 = .ok (.iload 4, 2) := by decide +kernel
theorem d_hReplace_9 : decode b_hReplace 9 = .ok (.iload 5, 2) := by decide +kernel
theorem d_hReplace_11 : decode b_hReplace 11 = .ok (.invokevirtual 25, 3) := by decide +kernel
theorem d_hReplace_14 : decode b_hReplace 14 = .ok (.i2l, 1) := by decide +kernel
theorem d_hReplace_15 : decode b_hReplace 15 = .ok (.lastore, 1) := by decide +kernel
theorem d_hReplace_16 : decode b_hReplace 16 = .ok (.goto 15, 3) := by decide +kernel
theorem d_hReplace_19 : decode b_hReplace 19 = .ok (.astore 7, 2) := by decide +kernel
theorem d_hReplace_21 : decode b_hReplace 21 = .ok (.iconst 1, 1) := by decide +kernel
theorem d_hReplace_22 : decode b_hReplace 22 = .ok (.ireturn, 1) := by decide +kernel
theorem d_hReplace_23 : decode b_hReplace 23 = .ok (.astore 7, 2) := by decide +kernel
theorem d_hReplace_25 : decode b_hReplace 25 = .ok (.iconst 2, 1) := by decide +kernel
theorem d_hReplace_26 : decode b_hReplace 26 = .ok (.ireturn, 1) := by decide +kernel
theorem d_hReplace_27 : decode b_hReplace 27 = .ok (.astore 7, 2) := by decide +kernel
theorem d_hReplace_29 : decode b_hReplace 29 = .ok (.iconst 3, 1) := by decide +kernel
theorem d_hReplace_30 : decode b_hReplace 30 = .ok (.ireturn, 1) := by decide +kernel
theorem d_hReplace_31 : decode b_hReplace 31 = .ok (.iconst 0, 1) := by decide +kernel
theorem d_hReplace_32 : decode b_hReplace 32 = .ok (.ireturn, 1) := by decide +kernel
theorem d_hAt_0 : decode b_hAt 0 = .ok (.aload_n 2, 1) := by decide +kernel
theorem d_hAt_1 : decode b_hAt 1 = .ok (.iconst 0, 1) := by decide +kernel
theorem d_hAt_2 : decode b_hAt 2 = .ok (.aload_n 0, 1) := by decide +kernel
theorem d_hAt_3 : decode b_hAt 3 = .ok (.iload_n 1, 1) := by decide +kernel
theorem d_hAt_4 : decode b_hAt 4 = .ok (.invokevirtual 30, 3) := by decide +kernel
theorem d_hAt_7 : decode b_hAt 7 = .ok (.i2l, 1) := by decide +kernel
theorem d_hAt_8 : decode b_hAt 8 = .ok (.lastore, 1) := by decide +kernel
theorem d_hAt_9 : decode b_hAt 9 = .ok (.goto 6, 3) := by decide +kernel
theorem d_hAt_12 : decode b_hAt 12 = .ok (.astore_n 3, 1) := by decide +kernel
theorem d_hAt_13 : decode b_hAt 13 = .ok (.iconst 1, 1) := by decide +kernel
theorem d_hAt_14 : decode b_hAt 14 = .ok (.ireturn, 1) := by decide +kernel
theorem d_hAt_15 : decode b_hAt 15 = .ok (.iconst 0, 1) := by decide +kernel
theorem d_hAt_16 : decode b_hAt 16 = .ok (.ireturn, 1) := by decide +kernel
theorem d_hKind_0 : decode b_hKind 0 = .ok (.aload_n 2, 1) := by decide +kernel
theorem d_hKind_1 : decode b_hKind 1 = .ok (.iconst 0, 1) := by decide +kernel
theorem d_hKind_2 : decode b_hKind 2 = .ok (.aload_n 0, 1) := by decide +kernel
theorem d_hKind_3 : decode b_hKind 3 = .ok (.iload_n 1, 1) := by decide +kernel
theorem d_hKind_4 : decode b_hKind 4 = .ok (.invokevirtual 34, 3) := by decide +kernel
theorem d_hKind_7 : decode b_hKind 7 = .ok (.i2l, 1) := by decide +kernel
theorem d_hKind_8 : decode b_hKind 8 = .ok (.lastore, 1) := by decide +kernel
theorem d_hKind_9 : decode b_hKind 9 = .ok (.goto 6, 3) := by decide +kernel
theorem d_hKind_12 : decode b_hKind 12 = .ok (.astore_n 3, 1) := by decide +kernel
theorem d_hKind_13 : decode b_hKind 13 = .ok (.iconst 1, 1) := by decide +kernel
theorem d_hKind_14 : decode b_hKind 14 = .ok (.ireturn, 1) := by decide +kernel
theorem d_hKind_15 : decode b_hKind 15 = .ok (.iconst 0, 1) := by decide +kernel
theorem d_hKind_16 : decode b_hKind 16 = .ok (.ireturn, 1) := by decide +kernel
theorem d_hBreaks_0 : decode b_hBreaks 0 = .ok (.aload_n 2, 1) := by decide +kernel
theorem d_hBreaks_1 : decode b_hBreaks 1 = .ok (.iconst 0, 1) := by decide +kernel
theorem d_hBreaks_2 : decode b_hBreaks 2 = .ok (.aload_n 0, 1) := by decide +kernel
theorem d_hBreaks_3 : decode b_hBreaks 3 = .ok (.iload_n 1, 1) := by decide +kernel
theorem d_hBreaks_4 : decode b_hBreaks 4 = .ok (.invokevirtual 37, 3) := by decide +kernel
theorem d_hBreaks_7 : decode b_hBreaks 7 = .ok (.i2l, 1) := by decide +kernel
theorem d_hBreaks_8 : decode b_hBreaks 8 = .ok (.lastore, 1) := by decide +kernel
theorem d_hBreaks_9 : decode b_hBreaks 9 = .ok (.goto 6, 3) := by decide +kernel
theorem d_hBreaks_12 : decode b_hBreaks 12 = .ok (.astore_n 3, 1) := by decide +kernel
theorem d_hBreaks_13 : decode b_hBreaks 13 = .ok (.iconst 1, 1) := by decide +kernel
theorem d_hBreaks_14 : decode b_hBreaks 14 = .ok (.ireturn, 1) := by decide +kernel
theorem d_hBreaks_15 : decode b_hBreaks 15 = .ok (.iconst 0, 1) := by decide +kernel
theorem d_hBreaks_16 : decode b_hBreaks 16 = .ok (.ireturn, 1) := by decide +kernel
theorem d_hRule_0 : decode b_hRule 0 = .ok (.aload_n 2, 1) := by decide +kernel
theorem d_hRule_1 : decode b_hRule 1 = .ok (.iconst 0, 1) := by decide +kernel
theorem d_hRule_2 : decode b_hRule 2 = .ok (.aload_n 0, 1) := by decide +kernel
theorem d_hRule_3 : decode b_hRule 3 = .ok (.iload_n 1, 1) := by decide +kernel
theorem d_hRule_4 : decode b_hRule 4 = .ok (.invokevirtual 40, 3) := by decide +kernel
theorem d_hRule_7 : decode b_hRule 7 = .ok (.i2l, 1) := by decide +kernel
theorem d_hRule_8 : decode b_hRule 8 = .ok (.lastore, 1) := by decide +kernel
theorem d_hRule_9 : decode b_hRule 9 = .ok (.goto 6, 3) := by decide +kernel
theorem d_hRule_12 : decode b_hRule 12 = .ok (.astore_n 3, 1) := by decide +kernel
theorem d_hRule_13 : decode b_hRule 13 = .ok (.iconst 1, 1) := by decide +kernel
theorem d_hRule_14 : decode b_hRule 14 = .ok (.ireturn, 1) := by decide +kernel
theorem d_hRule_15 : decode b_hRule 15 = .ok (.iconst 0, 1) := by decide +kernel
theorem d_hRule_16 : decode b_hRule 16 = .ok (.ireturn, 1) := by decide +kernel
theorem d_hNext_0 : decode b_hNext 0 = .ok (.aload_n 2, 1) := by decide +kernel
theorem d_hNext_1 : decode b_hNext 1 = .ok (.iconst 0, 1) := by decide +kernel
theorem d_hNext_2 : decode b_hNext 2 = .ok (.aload_n 0, 1) := by decide +kernel
theorem d_hNext_3 : decode b_hNext 3 = .ok (.iload_n 1, 1) := by decide +kernel
theorem d_hNext_4 : decode b_hNext 4 = .ok (.invokevirtual 43, 3) := by decide +kernel
theorem d_hNext_7 : decode b_hNext 7 = .ok (.i2l, 1) := by decide +kernel
theorem d_hNext_8 : decode b_hNext 8 = .ok (.lastore, 1) := by decide +kernel
theorem d_hNext_9 : decode b_hNext 9 = .ok (.goto 6, 3) := by decide +kernel
theorem d_hNext_12 : decode b_hNext 12 = .ok (.astore_n 3, 1) := by decide +kernel
theorem d_hNext_13 : decode b_hNext 13 = .ok (.iconst 1, 1) := by decide +kernel
theorem d_hNext_14 : decode b_hNext 14 = .ok (.ireturn, 1) := by decide +kernel
theorem d_hNext_15 : decode b_hNext 15 = .ok (.iconst 0, 1) := by decide +kernel
theorem d_hNext_16 : decode b_hNext 16 = .ok (.ireturn, 1) := by decide +kernel
theorem d_hFit_0 : decode b_hFit 0 = .ok (.aload_n 3, 1) := by decide +kernel
theorem d_hFit_1 : decode b_hFit 1 = .ok (.iconst 0, 1) := by decide +kernel
theorem d_hFit_2 : decode b_hFit 2 = .ok (.aload_n 0, 1) := by decide +kernel
theorem d_hFit_3 : decode b_hFit 3 = .ok (.iload_n 1, 1) := by decide +kernel
theorem d_hFit_4 : decode b_hFit 4 = .ok (.iload_n 2, 1) := by decide +kernel
theorem d_hFit_5 : decode b_hFit 5 = .ok (.invokevirtual 46, 3) := by decide +kernel
theorem d_hFit_8 : decode b_hFit 8 = .ok (.i2l, 1) := by decide +kernel
theorem d_hFit_9 : decode b_hFit 9 = .ok (.lastore, 1) := by decide +kernel
theorem d_hFit_10 : decode b_hFit 10 = .ok (.goto 11, 3) := by decide +kernel
theorem d_hFit_13 : decode b_hFit 13 = .ok (.astore 4, 2) := by decide +kernel
theorem d_hFit_15 : decode b_hFit 15 = .ok (.iconst 1, 1) := by decide +kernel
theorem d_hFit_16 : decode b_hFit 16 = .ok (.ireturn, 1) := by decide +kernel
theorem d_hFit_17 : decode b_hFit 17 = .ok (.astore 4, 2) := by decide +kernel
theorem d_hFit_19 : decode b_hFit 19 = .ok (.iconst 2, 1) := by decide +kernel
theorem d_hFit_20 : decode b_hFit 20 = .ok (.ireturn, 1) := by decide +kernel
theorem d_hFit_21 : decode b_hFit 21 = .ok (.iconst 0, 1) := by decide +kernel
theorem d_hFit_22 : decode b_hFit 22 = .ok (.ireturn, 1) := by decide +kernel
theorem w_253 : Cond.methodLink "BreakPlacesLaw" 7 y_property ∈ wA := wA_1 (i := 214) rfl rfl
theorem w_254 : Cond.instanceMethod y_property ∈ wA := wA_1 (i := 215) rfl rfl
theorem w_255 : Cond.selects "BreakPlaces" y_property y_property ∈ wA := wA_1 (i := 216) rfl rfl
theorem w_256 : Cond.classLink "BreakPlacesLaw" 13 "java/lang/IllegalArgumentException" ∈ wA := wA_1 (i := 212) rfl rfl
theorem w_257 : Cond.classLink "BreakPlacesLaw" 15 "java/lang/IllegalStateException" ∈ wA := wA_1 (i := 213) rfl rfl
theorem w_258 : Cond.castable "java/lang/IllegalArgumentException" "java/lang/IllegalArgumentException" ∈ wN := wN_1 (i := 227) rfl rfl
theorem w_259 : Cond.castable "java/lang/IllegalStateException" "java/lang/IllegalStateException" ∈ wN := wN_2 (i := 59) rfl rfl
theorem w_260 : Cond.methodLink "BreakPlacesLaw" 17 y_mark ∈ wA := wA_2 (i := 81) rfl rfl
theorem w_261 : Cond.instanceMethod y_mark ∈ wA := wA_2 (i := 82) rfl rfl
theorem w_262 : Cond.selects "BreakPlaces" y_mark y_mark ∈ wA := wA_2 (i := 83) rfl rfl
theorem w_263 : Cond.methodLink "BreakPlacesLaw" 21 y_add ∈ wA := wA_2 (i := 90) rfl rfl
theorem w_264 : Cond.instanceMethod y_add ∈ wA := wA_2 (i := 91) rfl rfl
theorem w_265 : Cond.selects "BreakPlaces" y_add y_add ∈ wA := wA_2 (i := 92) rfl rfl
theorem w_266 : Cond.methodLink "BreakPlacesLaw" 25 y_replace ∈ wA := wA_2 (i := 115) rfl rfl
theorem w_267 : Cond.instanceMethod y_replace ∈ wA := wA_2 (i := 116) rfl rfl
theorem w_268 : Cond.selects "BreakPlaces" y_replace y_replace ∈ wA := wA_2 (i := 117) rfl rfl
theorem w_269 : Cond.classLink "BreakPlacesLaw" 28 "java/lang/IndexOutOfBoundsException" ∈ wA := wA_2 (i := 114) rfl rfl
theorem w_270 : Cond.castable "java/lang/IndexOutOfBoundsException" "java/lang/IndexOutOfBoundsException" ∈ wN := wN_2 (i := 125) rfl rfl
theorem w_271 : Cond.methodLink "BreakPlacesLaw" 30 y_at ∈ wA := wA_2 (i := 142) rfl rfl
theorem w_272 : Cond.instanceMethod y_at ∈ wA := wA_2 (i := 143) rfl rfl
theorem w_273 : Cond.selects "BreakPlaces" y_at y_at ∈ wA := wA_2 (i := 144) rfl rfl
theorem w_274 : Cond.methodLink "BreakPlacesLaw" 34 y_kind ∈ wA := wA_2 (i := 154) rfl rfl
theorem w_275 : Cond.instanceMethod y_kind ∈ wA := wA_2 (i := 155) rfl rfl
theorem w_276 : Cond.selects "BreakPlaces" y_kind y_kind ∈ wA := wA_2 (i := 156) rfl rfl
theorem w_277 : Cond.methodLink "BreakPlacesLaw" 37 y_breaks ∈ wA := wA_2 (i := 161) rfl rfl
theorem w_278 : Cond.instanceMethod y_breaks ∈ wA := wA_2 (i := 162) rfl rfl
theorem w_279 : Cond.selects "BreakPlaces" y_breaks y_breaks ∈ wA := wA_2 (i := 163) rfl rfl
theorem w_280 : Cond.methodLink "BreakPlacesLaw" 40 y_rule ∈ wA := wA_2 (i := 169) rfl rfl
theorem w_281 : Cond.instanceMethod y_rule ∈ wA := wA_2 (i := 170) rfl rfl
theorem w_282 : Cond.selects "BreakPlaces" y_rule y_rule ∈ wA := wA_2 (i := 171) rfl rfl
theorem w_283 : Cond.methodLink "BreakPlacesLaw" 43 y_next ∈ wA := wA_2 (i := 176) rfl rfl
theorem w_284 : Cond.instanceMethod y_next ∈ wA := wA_2 (i := 177) rfl rfl
theorem w_285 : Cond.selects "BreakPlaces" y_next y_next ∈ wA := wA_2 (i := 178) rfl rfl
theorem w_286 : Cond.methodLink "BreakPlacesLaw" 46 y_fit ∈ wA := wA_2 (i := 183) rfl rfl
theorem w_287 : Cond.instanceMethod y_fit ∈ wA := wA_2 (i := 184) rfl rfl
theorem w_288 : Cond.selects "BreakPlaces" y_fit y_fit ∈ wA := wA_2 (i := 185) rfl rfl
theorem k_add : Cond.code y_add b_add 7 (some .int) ∈ wA := wA_2 (i := 93) rfl rfl
theorem e_add : y_add.cls ≠ "java/lang/invoke/MethodHandle" ∧ y_add.cls ≠ "java/lang/invoke/VarHandle" ∧ (parseMethodDescriptor y_add.desc).map (fun d => d.parameters.length) = some 5 := by decide +kernel
theorem k_at : Cond.code y_at b_at 2 (some .int) ∈ wA := wA_2 (i := 145) rfl rfl
theorem e_at : y_at.cls ≠ "java/lang/invoke/MethodHandle" ∧ y_at.cls ≠ "java/lang/invoke/VarHandle" ∧ (parseMethodDescriptor y_at.desc).map (fun d => d.parameters.length) = some 1 := by decide +kernel
theorem k_breaks : Cond.code y_breaks b_breaks 2 (some .int) ∈ wA := wA_2 (i := 164) rfl rfl
theorem e_breaks : y_breaks.cls ≠ "java/lang/invoke/MethodHandle" ∧ y_breaks.cls ≠ "java/lang/invoke/VarHandle" ∧ (parseMethodDescriptor y_breaks.desc).map (fun d => d.parameters.length) = some 1 := by decide +kernel
theorem k_fit : Cond.code y_fit b_fit 7 (some .int) ∈ wA := wA_2 (i := 186) rfl rfl
theorem e_fit : y_fit.cls ≠ "java/lang/invoke/MethodHandle" ∧ y_fit.cls ≠ "java/lang/invoke/VarHandle" ∧ (parseMethodDescriptor y_fit.desc).map (fun d => d.parameters.length) = some 2 := by decide +kernel
theorem k_kind : Cond.code y_kind b_kind 2 (some .int) ∈ wA := wA_2 (i := 157) rfl rfl
theorem e_kind : y_kind.cls ≠ "java/lang/invoke/MethodHandle" ∧ y_kind.cls ≠ "java/lang/invoke/VarHandle" ∧ (parseMethodDescriptor y_kind.desc).map (fun d => d.parameters.length) = some 1 := by decide +kernel
theorem k_mark : Cond.code y_mark b_mark 6 none ∈ wA := wA_2 (i := 84) rfl rfl
theorem e_mark : y_mark.cls ≠ "java/lang/invoke/MethodHandle" ∧ y_mark.cls ≠ "java/lang/invoke/VarHandle" ∧ (parseMethodDescriptor y_mark.desc).map (fun d => d.parameters.length) = some 4 := by decide +kernel
theorem k_next : Cond.code y_next b_next 3 (some .int) ∈ wA := wA_2 (i := 179) rfl rfl
theorem e_next : y_next.cls ≠ "java/lang/invoke/MethodHandle" ∧ y_next.cls ≠ "java/lang/invoke/VarHandle" ∧ (parseMethodDescriptor y_next.desc).map (fun d => d.parameters.length) = some 1 := by decide +kernel
theorem k_property : Cond.code y_property b_property 5 none ∈ wA := wA_1 (i := 217) rfl rfl
theorem e_property : y_property.cls ≠ "java/lang/invoke/MethodHandle" ∧ y_property.cls ≠ "java/lang/invoke/VarHandle" ∧ (parseMethodDescriptor y_property.desc).map (fun d => d.parameters.length) = some 3 := by decide +kernel
theorem k_replace : Cond.code y_replace b_replace 7 (some .int) ∈ wA := wA_2 (i := 118) rfl rfl
theorem e_replace : y_replace.cls ≠ "java/lang/invoke/MethodHandle" ∧ y_replace.cls ≠ "java/lang/invoke/VarHandle" ∧ (parseMethodDescriptor y_replace.desc).map (fun d => d.parameters.length) = some 5 := by decide +kernel
theorem k_rule : Cond.code y_rule b_rule 2 (some .int) ∈ wA := wA_2 (i := 172) rfl rfl
theorem e_rule : y_rule.cls ≠ "java/lang/invoke/MethodHandle" ∧ y_rule.cls ≠ "java/lang/invoke/VarHandle" ∧ (parseMethodDescriptor y_rule.desc).map (fun d => d.parameters.length) = some 1 := by decide +kernel
