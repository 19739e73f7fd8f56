abbrev b_rInit : ByteArray := prog_3_method_1_code
def y_rInit : MethodName := ⟨"BreakPlaces$Ranges", "<init>", "(I)V"⟩
abbrev b_bInit : ByteArray := prog_2_method_1_code
def y_bInit : MethodName := ⟨"BreakPlaces$Before", "<init>", "()V"⟩
abbrev b_pInit : ByteArray := prog_1_method_1_code
def y_pInit : MethodName := ⟨"BreakPlaces", "<init>", "()V"⟩
abbrev b_mInit : ByteArray := prog_5_method_1_code
def y_mInit : MethodName := ⟨"BreakPlacesModel", "<init>", "()V"⟩
theorem d_rInit_0 : decode b_rInit 0 = .ok (.aload_n 0, 1) := by decide +kernel
theorem d_rInit_1 : decode b_rInit 1 = .ok (.invokespecial 1, 3) := by decide +kernel
theorem d_rInit_4 : decode b_rInit 4 = .ok (.iload_n 1, 1) := by decide +kernel
theorem d_rInit_5 : decode b_rInit 5 = .ok (.ifCond .ge 7, 3) := by decide +kernel
theorem d_rInit_8 : decode b_rInit 8 = .ok (.iconst 0, 1) := by decide +kernel
theorem d_rInit_9 : decode b_rInit 9 = .ok (.goto 4, 3) := by decide +kernel
theorem d_rInit_12 : decode b_rInit 12 = .ok (.iload_n 1, 1) := by decide +kernel
theorem d_rInit_13 : decode b_rInit 13 = .ok (.istore_n 2, 1) := by decide +kernel
theorem d_rInit_14 : decode b_rInit 14 = .ok (.aload_n 0, 1) := by decide +kernel
theorem d_rInit_15 : decode b_rInit 15 = .ok (.iload_n 2, 1) := by decide +kernel
theorem d_rInit_16 : decode b_rInit 16 = .ok (.newarray .int, 2) := by decide +kernel
theorem d_rInit_18 : decode b_rInit 18 = .ok (.putfield 7, 3) := by decide +kernel
theorem d_rInit_21 : decode b_rInit 21 = .ok (.aload_n 0, 1) := by decide +kernel
theorem d_rInit_22 : decode b_rInit 22 = .ok (.iload_n 2, 1) := by decide +kernel
theorem d_rInit_23 : decode b_rInit 23 = .ok (.newarray .int, 2) := by decide +kernel
theorem d_rInit_25 : decode b_rInit 25 = .ok (.putfield 13, 3) := by decide +kernel
theorem d_rInit_28 : decode b_rInit 28 = .ok (.aload_n 0, 1) := by decide +kernel
theorem d_rInit_29 : decode b_rInit 29 = .ok (.iload_n 2, 1) := by decide +kernel
theorem d_rInit_30 : decode b_rInit 30 = .ok (.newarray .int, 2) := by decide +kernel
theorem d_rInit_32 : decode b_rInit 32 = .ok (.putfield 16, 3) := by decide +kernel
theorem d_rInit_35 : decode b_rInit 35 = .ok (.aload_n 0, 1) := by decide +kernel
theorem d_rInit_36 : decode b_rInit 36 = .ok (.iconst 0, 1) := by decide +kernel
theorem d_rInit_37 : decode b_rInit 37 = .ok (.putfield 19, 3) := by decide +kernel
theorem d_rInit_40 : decode b_rInit 40 = .ok (.return_, 1) := by decide +kernel
theorem d_bInit_0 : decode b_bInit 0 = .ok (.aload_n 0, 1) := by decide +kernel
theorem d_bInit_1 : decode b_bInit 1 = .ok (.invokespecial 3, 3) := by decide +kernel
theorem d_bInit_4 : decode b_bInit 4 = .ok (.aload_n 0, 1) := by decide +kernel
theorem d_bInit_5 : decode b_bInit 5 = .ok (.invokevirtual 9, 3) := by decide +kernel
theorem d_bInit_8 : decode b_bInit 8 = .ok (.return_, 1) := by decide +kernel
theorem d_pInit_0 : decode b_pInit 0 = .ok (.aload_n 0, 1) := by decide +kernel
theorem d_pInit_1 : decode b_pInit 1 = .ok (.invokespecial 3, 3) := by decide +kernel
theorem d_pInit_4 : decode b_pInit 4 = .ok (.aload_n 0, 1) := by decide +kernel
theorem d_pInit_5 : decode b_pInit 5 = .ok (.sipush 2000, 3) := by decide +kernel
theorem d_pInit_8 : decode b_pInit 8 = .ok (.newarray .int, 2) := by decide +kernel
theorem d_pInit_10 : decode b_pInit 10 = .ok (.putfield 9, 3) := by decide +kernel
theorem d_pInit_13 : decode b_pInit 13 = .ok (.aload_n 0, 1) := by decide +kernel
theorem d_pInit_14 : decode b_pInit 14 = .ok (.sipush 2000, 3) := by decide +kernel
theorem d_pInit_17 : decode b_pInit 17 = .ok (.newarray .int, 2) := by decide +kernel
theorem d_pInit_19 : decode b_pInit 19 = .ok (.putfield 13, 3) := by decide +kernel
theorem d_pInit_22 : decode b_pInit 22 = .ok (.aload_n 0, 1) := by decide +kernel
theorem d_pInit_23 : decode b_pInit 23 = .ok (.sipush 2000, 3) := by decide +kernel
theorem d_pInit_26 : decode b_pInit 26 = .ok (.newarray .int, 2) := by decide +kernel
theorem d_pInit_28 : decode b_pInit 28 = .ok (.putfield 16, 3) := by decide +kernel
theorem d_pInit_31 : decode b_pInit 31 = .ok (.aload_n 0, 1) := by decide +kernel
theorem d_pInit_32 : decode b_pInit 32 = .ok (.iconst 5, 1) := by decide +kernel
theorem d_pInit_33 : decode b_pInit 33 = .ok (.newarray .int, 2) := by decide +kernel
theorem d_pInit_35 : decode b_pInit 35 = .ok (.putfield 19, 3) := by decide +kernel
theorem d_pInit_38 : decode b_pInit 38 = .ok (.aload_n 0, 1) := by decide +kernel
theorem d_pInit_39 : decode b_pInit 39 = .ok (.new 22, 3) := by decide +kernel
theorem d_pInit_42 : decode b_pInit 42 = .ok (.dup, 1) := by decide +kernel
theorem d_pInit_43 : decode b_pInit 43 = .ok (.bipush 100, 2) := by decide +kernel
theorem d_pInit_45 : decode b_pInit 45 = .ok (.invokespecial 24, 3) := by decide +kernel
theorem d_pInit_48 : decode b_pInit 48 = .ok (.putfield 27, 3) := by decide +kernel
theorem d_pInit_51 : decode b_pInit 51 = .ok (.aload_n 0, 1) := by decide +kernel
theorem d_pInit_52 : decode b_pInit 52 = .ok (.new 22, 3) := by decide +kernel
theorem d_pInit_55 : decode b_pInit 55 = .ok (.dup, 1) := by decide +kernel
theorem d_pInit_56 : decode b_pInit 56 = .ok (.bipush 40, 2) := by decide +kernel
theorem d_pInit_58 : decode b_pInit 58 = .ok (.invokespecial 24, 3) := by decide +kernel
theorem d_pInit_61 : decode b_pInit 61 = .ok (.putfield 31, 3) := by decide +kernel
theorem d_pInit_64 : decode b_pInit 64 = .ok (.aload_n 0, 1) := by decide +kernel
theorem d_pInit_65 : decode b_pInit 65 = .ok (.new 22, 3) := by decide +kernel
theorem d_pInit_68 : decode b_pInit 68 = .ok (.dup, 1) := by decide +kernel
theorem d_pInit_69 : decode b_pInit 69 = .ok (.bipush 40, 2) := by decide +kernel
theorem d_pInit_71 : decode b_pInit 71 = .ok (.invokespecial 24, 3) := by decide +kernel
theorem d_pInit_74 : decode b_pInit 74 = .ok (.putfield 34, 3) := by decide +kernel
theorem d_pInit_77 : decode b_pInit 77 = .ok (.aload_n 0, 1) := by decide +kernel
theorem d_pInit_78 : decode b_pInit 78 = .ok (.new 37, 3) := by decide +kernel
theorem d_pInit_81 : decode b_pInit 81 = .ok (.dup, 1) := by decide +kernel
theorem d_pInit_82 : decode b_pInit 82 = .ok (.invokespecial 39, 3) := by decide +kernel
theorem d_pInit_85 : decode b_pInit 85 = .ok (.putfield 40, 3) := by decide +kernel
theorem d_pInit_88 : decode b_pInit 88 = .ok (.aload_n 0, 1) := by decide +kernel
theorem d_pInit_89 : decode b_pInit 89 = .ok (.iconst 0, 1) := by decide +kernel
theorem d_pInit_90 : decode b_pInit 90 = .ok (.putfield 44, 3) := by decide +kernel
theorem d_pInit_93 : decode b_pInit 93 = .ok (.aload_n 0, 1) := by decide +kernel
theorem d_pInit_94 : decode b_pInit 94 = .ok (.iconst 0, 1) := by decide +kernel
theorem d_pInit_95 : decode b_pInit 95 = .ok (.putfield 48, 3) := by decide +kernel
theorem d_pInit_98 : decode b_pInit 98 = .ok (.aload_n 0, 1) := by decide +kernel
theorem d_pInit_99 : decode b_pInit 99 = .ok (.iconst 0, 1) := by decide +kernel
theorem d_pInit_100 : decode b_pInit 100 = .ok (.putfield 52, 3) := by decide +kernel
theorem d_pInit_103 : decode b_pInit 103 = .ok (.return_, 1) := by decide +kernel
theorem d_mInit_0 : decode b_mInit 0 = .ok (.aload_n 0, 1) := by decide +kernel
theorem d_mInit_1 : decode b_mInit 1 = .ok (.invokespecial 1, 3) := by decide +kernel
theorem d_mInit_4 : decode b_mInit 4 = .ok (.aload_n 0, 1) := by decide +kernel
theorem d_mInit_5 : decode b_mInit 5 = .ok (.bipush 100, 2) := by decide +kernel
theorem d_mInit_7 : decode b_mInit 7 = .ok (.newarray .int, 2) := by decide +kernel
theorem d_mInit_9 : decode b_mInit 9 = .ok (.putfield 7, 3) := by decide +kernel
theorem d_mInit_12 : decode b_mInit 12 = .ok (.aload_n 0, 1) := by decide +kernel
theorem d_mInit_13 : decode b_mInit 13 = .ok (.bipush 100, 2) := by decide +kernel
theorem d_mInit_15 : decode b_mInit 15 = .ok (.newarray .int, 2) := by decide +kernel
theorem d_mInit_17 : decode b_mInit 17 = .ok (.putfield 13, 3) := by decide +kernel
theorem d_mInit_20 : decode b_mInit 20 = .ok (.aload_n 0, 1) := by decide +kernel
theorem d_mInit_21 : decode b_mInit 21 = .ok (.bipush 100, 2) := by decide +kernel
theorem d_mInit_23 : decode b_mInit 23 = .ok (.newarray .int, 2) := by decide +kernel
theorem d_mInit_25 : decode b_mInit 25 = .ok (.putfield 16, 3) := by decide +kernel
theorem d_mInit_28 : decode b_mInit 28 = .ok (.aload_n 0, 1) := by decide +kernel
theorem d_mInit_29 : decode b_mInit 29 = .ok (.iconst 2, 1) := by decide +kernel
theorem d_mInit_30 : decode b_mInit 30 = .ok (.newarray .int, 2) := by decide +kernel
theorem d_mInit_32 : decode b_mInit 32 = .ok (.putfield 19, 3) := by decide +kernel
theorem d_mInit_35 : decode b_mInit 35 = .ok (.aload_n 0, 1) := by decide +kernel
theorem d_mInit_36 : decode b_mInit 36 = .ok (.bipush 80, 2) := by decide +kernel
theorem d_mInit_38 : decode b_mInit 38 = .ok (.newarray .int, 2) := by decide +kernel
theorem d_mInit_40 : decode b_mInit 40 = .ok (.putfield 22, 3) := by decide +kernel
theorem d_mInit_43 : decode b_mInit 43 = .ok (.aload_n 0, 1) := by decide +kernel
theorem d_mInit_44 : decode b_mInit 44 = .ok (.bipush 80, 2) := by decide +kernel
theorem d_mInit_46 : decode b_mInit 46 = .ok (.newarray .int, 2) := by decide +kernel
theorem d_mInit_48 : decode b_mInit 48 = .ok (.putfield 25, 3) := by decide +kernel
theorem d_mInit_51 : decode b_mInit 51 = .ok (.aload_n 0, 1) := by decide +kernel
theorem d_mInit_52 : decode b_mInit 52 = .ok (.bipush 80, 2) := by decide +kernel
theorem d_mInit_54 : decode b_mInit 54 = .ok (.newarray .boolean, 2) := by decide +kernel
theorem d_mInit_56 : decode b_mInit 56 = .ok (.putfield 28, 3) := by decide +kernel
theorem d_mInit_59 : decode b_mInit 59 = .ok (.aload_n 0, 1) := by decide +kernel
theorem d_mInit_60 : decode b_mInit 60 = .ok (.sipush 2000, 3) := by decide +kernel
theorem d_mInit_63 : decode b_mInit 63 = .ok (.newarray .int, 2) := by decide +kernel
theorem d_mInit_65 : decode b_mInit 65 = .ok (.putfield 32, 3) := by decide +kernel
theorem d_mInit_68 : decode b_mInit 68 = .ok (.aload_n 0, 1) := by decide +kernel
theorem d_mInit_69 : decode b_mInit 69 = .ok (.iconst 5, 1) := by decide +kernel
theorem d_mInit_70 : decode b_mInit 70 = .ok (.newarray .int, 2) := by decide +kernel
theorem d_mInit_72 : decode b_mInit 72 = .ok (.putfield 35, 3) := by decide +kernel
theorem d_mInit_75 : decode b_mInit 75 = .ok (.return_, 1) := by decide +kernel
theorem w_237 : Cond.methodLink "BreakPlaces$Ranges" 1 objectInit ∈ wA := wA_1 (i := 25) rfl rfl
theorem w_238 : Cond.instanceMethod objectInit ∈ wA := wA_1 (i := 18) rfl rfl
theorem w_239 : Cond.arrayClass .int ∈ wA := wA_1 (i := 39) rfl rfl
theorem w_240 : Cond.methodLink "BreakPlaces$Before" 3 objectInit ∈ wA := wA_1 (i := 45) rfl rfl
theorem w_241 : Cond.methodLink "BreakPlaces$Before" 9 y_bStart ∈ wA := wA_1 (i := 46) rfl rfl
theorem w_242 : Cond.methodLink "BreakPlaces" 3 objectInit ∈ wA := wA_1 (i := 17) rfl rfl
theorem w_243 : Cond.classLink "BreakPlaces" 22 "BreakPlaces$Ranges" ∈ wA := wA_1 (i := 20) rfl rfl
theorem w_244 : Cond.instantiable "BreakPlaces$Ranges" 4 ∈ wA := wA_1 (i := 21) rfl rfl
theorem w_245 : Cond.instanceMethod y_rInit ∈ wA := wA_1 (i := 23) rfl rfl
theorem w_246 : Cond.methodLinkNest "BreakPlaces" 24 y_rInit "BreakPlaces" ∈ wN := wN_1 (i := 22) rfl rfl
theorem w_247 : Cond.classLink "BreakPlaces" 37 "BreakPlaces$Before" ∈ wA := wA_1 (i := 40) rfl rfl
theorem w_248 : Cond.instantiable "BreakPlaces$Before" 6 ∈ wA := wA_1 (i := 41) rfl rfl
theorem w_249 : Cond.instanceMethod y_bInit ∈ wA := wA_1 (i := 43) rfl rfl
theorem w_250 : Cond.methodLinkNest "BreakPlaces" 39 y_bInit "BreakPlaces" ∈ wN := wN_1 (i := 42) rfl rfl
theorem w_251 : Cond.methodLink "BreakPlacesModel" 1 objectInit ∈ wA := wA_2 (i := 194) rfl rfl
theorem w_252 : Cond.arrayClass .boolean ∈ wA := wA_2 (i := 238) rfl rfl
theorem k_bInit : Cond.code y_bInit b_bInit 1 none ∈ wA := wA_1 (i := 44) rfl rfl
theorem e_bInit : y_bInit.cls ≠ "java/lang/invoke/MethodHandle" ∧ y_bInit.cls ≠ "java/lang/invoke/VarHandle" ∧ (parseMethodDescriptor y_bInit.desc).map (fun d => d.parameters.length) = some 0 := by decide +kernel
theorem k_rInit : Cond.code y_rInit b_rInit 3 none ∈ wA := wA_1 (i := 24) rfl rfl
theorem e_rInit : y_rInit.cls ≠ "java/lang/invoke/MethodHandle" ∧ y_rInit.cls ≠ "java/lang/invoke/VarHandle" ∧ (parseMethodDescriptor y_rInit.desc).map (fun d => d.parameters.length) = some 1 := by decide +kernel
theorem k_objInit : Cond.code objectInit ⟨#[0xb1]⟩ 1 none ∈ wA := wA_1 (i := 19) rfl rfl
