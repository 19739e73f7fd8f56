abbrev b_add : ByteArray := prog_1_method_5_code
def y_add : MethodName := ⟨"BreakPlaces", "add", "(IIIII)I"⟩
abbrev b_replace : ByteArray := prog_1_method_6_code
def y_replace : MethodName := ⟨"BreakPlaces", "replace", "(IIIII)I"⟩
theorem d_add_0 : decode b_add 0 = .ok (.aload_n 0, 1) := by decide +kernel
theorem d_add_1 : decode b_add 1 = .ok (.iload_n 1, 1) := by decide +kernel
theorem d_add_2 : decode b_add 2 = .ok (.iload_n 2, 1) := by decide +kernel
theorem d_add_3 : decode b_add 3 = .ok (.iload_n 3, 1) := by decide +kernel
theorem d_add_4 : decode b_add 4 = .ok (.iload 4, 2) := by decide +kernel
theorem d_add_6 : decode b_add 6 = .ok (.iload 5, 2) := by decide +kernel
theorem d_add_8 : decode b_add 8 = .ok (.invokevirtual 86, 3) := by decide +kernel
theorem d_add_11 : decode b_add 11 = .ok (.istore 6, 2) := by decide +kernel
theorem d_add_13 : decode b_add 13 = .ok (.aload_n 0, 1) := by decide +kernel
theorem d_add_14 : decode b_add 14 = .ok (.iload 6, 2) := by decide +kernel
theorem d_add_16 : decode b_add 16 = .ok (.invokevirtual 90, 3) := by decide +kernel
theorem d_add_19 : decode b_add 19 = .ok (.ifCond .ne 13, 3) := by decide +kernel
theorem d_add_22 : decode b_add 22 = .ok (.new 59, 3) := by decide +kernel
theorem d_add_25 : decode b_add 25 = .ok (.dup, 1) := by decide +kernel
theorem d_add_26 : decode b_add 26 = .ok (.ldc 94, 2) := by decide +kernel
theorem d_add_28 : decode b_add 28 = .ok (.invokespecial 63, 3) := by decide +kernel
theorem d_add_31 : decode b_add 31 = .ok (.athrow, 1) := by decide +kernel
theorem d_add_32 : decode b_add 32 = .ok (.aload_n 0, 1) := by decide +kernel
theorem d_add_33 : decode b_add 33 = .ok (.getfield 44, 3) := by decide +kernel
theorem d_add_36 : decode b_add 36 = .ok (.iload 6, 2) := by decide +kernel
theorem d_add_38 : decode b_add 38 = .ok (.iadd, 1) := by decide +kernel
theorem d_add_39 : decode b_add 39 = .ok (.sipush 2000, 3) := by decide +kernel
theorem d_add_42 : decode b_add 42 = .ok (.if_icmp .le 13, 3) := by decide +kernel
theorem d_add_45 : decode b_add 45 = .ok (.new 70, 3) := by decide +kernel
theorem d_add_48 : decode b_add 48 = .ok (.dup, 1) := by decide +kernel
theorem d_add_49 : decode b_add 49 = .ok (.ldc 96, 2) := by decide +kernel
theorem d_add_51 : decode b_add 51 = .ok (.invokespecial 74, 3) := by decide +kernel
theorem d_add_54 : decode b_add 54 = .ok (.athrow, 1) := by decide +kernel
theorem d_add_55 : decode b_add 55 = .ok (.aload_n 0, 1) := by decide +kernel
theorem d_add_56 : decode b_add 56 = .ok (.aload_n 0, 1) := by decide +kernel
theorem d_add_57 : decode b_add 57 = .ok (.getfield 44, 3) := by decide +kernel
theorem d_add_60 : decode b_add 60 = .ok (.aload_n 0, 1) := by decide +kernel
theorem d_add_61 : decode b_add 61 = .ok (.getfield 44, 3) := by decide +kernel
theorem d_add_64 : decode b_add 64 = .ok (.iload 6, 2) := by decide +kernel
theorem d_add_66 : decode b_add 66 = .ok (.invokevirtual 98, 3) := by decide +kernel
theorem d_add_69 : decode b_add 69 = .ok (.aload_n 0, 1) := by decide +kernel
theorem d_add_70 : decode b_add 70 = .ok (.getfield 44, 3) := by decide +kernel
theorem d_add_73 : decode b_add 73 = .ok (.ireturn, 1) := by decide +kernel
theorem d_replace_0 : decode b_replace 0 = .ok (.iload_n 1, 1) := by decide +kernel
theorem d_replace_1 : decode b_replace 1 = .ok (.iload_n 2, 1) := by decide +kernel
theorem d_replace_2 : decode b_replace 2 = .ok (.if_icmp .gt 19, 3) := by decide +kernel
theorem d_replace_5 : decode b_replace 5 = .ok (.aload_n 0, 1) := by decide +kernel
theorem d_replace_6 : decode b_replace 6 = .ok (.iload_n 1, 1) := by decide +kernel
theorem d_replace_7 : decode b_replace 7 = .ok (.invokevirtual 101, 3) := by decide +kernel
theorem d_replace_10 : decode b_replace 10 = .ok (.ifCond .eq 11, 3) := by decide +kernel
theorem d_replace_13 : decode b_replace 13 = .ok (.aload_n 0, 1) := by decide +kernel
theorem d_replace_14 : decode b_replace 14 = .ok (.iload_n 2, 1) := by decide +kernel
theorem d_replace_15 : decode b_replace 15 = .ok (.invokevirtual 101, 3) := by decide +kernel
theorem d_replace_18 : decode b_replace 18 = .ok (.ifCond .ne 13, 3) := by decide +kernel
theorem d_replace_21 : decode b_replace 21 = .ok (.new 104, 3) := by decide +kernel
theorem d_replace_24 : decode b_replace 24 = .ok (.dup, 1) := by decide +kernel
theorem d_replace_25 : decode b_replace 25 = .ok (.ldc 106, 2) := by decide +kernel
theorem d_replace_27 : decode b_replace 27 = .ok (.invokespecial 108, 3) := by decide +kernel
theorem d_replace_30 : decode b_replace 30 = .ok (.athrow, 1) := by decide +kernel
theorem d_replace_31 : decode b_replace 31 = .ok (.aload_n 0, 1) := by decide +kernel
theorem d_replace_32 : decode b_replace 32 = .ok (.iload_n 3, 1) := by decide +kernel
theorem d_replace_33 : decode b_replace 33 = .ok (.iload 4, 2) := by decide +kernel
theorem d_replace_35 : decode b_replace 35 = .ok (.iload 5, 2) := by decide +kernel
theorem d_replace_37 : decode b_replace 37 = .ok (.iconst (-1), 1) := by decide +kernel
theorem d_replace_38 : decode b_replace 38 = .ok (.iconst (-1), 1) := by decide +kernel
theorem d_replace_39 : decode b_replace 39 = .ok (.invokevirtual 86, 3) := by decide +kernel
theorem d_replace_42 : decode b_replace 42 = .ok (.istore 6, 2) := by decide +kernel
theorem d_replace_44 : decode b_replace 44 = .ok (.aload_n 0, 1) := by decide +kernel
theorem d_replace_45 : decode b_replace 45 = .ok (.iload 6, 2) := by decide +kernel
theorem d_replace_47 : decode b_replace 47 = .ok (.invokevirtual 90, 3) := by decide +kernel
theorem d_replace_50 : decode b_replace 50 = .ok (.ifCond .ne 13, 3) := by decide +kernel
theorem d_replace_53 : decode b_replace 53 = .ok (.new 59, 3) := by decide +kernel
theorem d_replace_56 : decode b_replace 56 = .ok (.dup, 1) := by decide +kernel
theorem d_replace_57 : decode b_replace 57 = .ok (.ldc 94, 2) := by decide +kernel
theorem d_replace_59 : decode b_replace 59 = .ok (.invokespecial 63, 3) := by decide +kernel
theorem d_replace_62 : decode b_replace 62 = .ok (.athrow, 1) := by decide +kernel
theorem d_replace_63 : decode b_replace 63 = .ok (.aload_n 0, 1) := by decide +kernel
theorem d_replace_64 : decode b_replace 64 = .ok (.getfield 44, 3) := by decide +kernel
theorem d_replace_67 : decode b_replace 67 = .ok (.iload_n 2, 1) := by decide +kernel
theorem d_replace_68 : decode b_replace 68 = .ok (.iload_n 1, 1) := by decide +kernel
theorem d_replace_69 : decode b_replace 69 = .ok (.isub, 1) := by decide +kernel
theorem d_replace_70 : decode b_replace 70 = .ok (.isub, 1) := by decide +kernel
theorem d_replace_71 : decode b_replace 71 = .ok (.iload 6, 2) := by decide +kernel
theorem d_replace_73 : decode b_replace 73 = .ok (.iadd, 1) := by decide +kernel
theorem d_replace_74 : decode b_replace 74 = .ok (.sipush 2000, 3) := by decide +kernel
theorem d_replace_77 : decode b_replace 77 = .ok (.if_icmp .le 13, 3) := by decide +kernel
theorem d_replace_80 : decode b_replace 80 = .ok (.new 70, 3) := by decide +kernel
theorem d_replace_83 : decode b_replace 83 = .ok (.dup, 1) := by decide +kernel
theorem d_replace_84 : decode b_replace 84 = .ok (.ldc 96, 2) := by decide +kernel
theorem d_replace_86 : decode b_replace 86 = .ok (.invokespecial 74, 3) := by decide +kernel
theorem d_replace_89 : decode b_replace 89 = .ok (.athrow, 1) := by decide +kernel
theorem d_replace_90 : decode b_replace 90 = .ok (.aload_n 0, 1) := by decide +kernel
theorem d_replace_91 : decode b_replace 91 = .ok (.iload_n 1, 1) := by decide +kernel
theorem d_replace_92 : decode b_replace 92 = .ok (.iload_n 2, 1) := by decide +kernel
theorem d_replace_93 : decode b_replace 93 = .ok (.iload 6, 2) := by decide +kernel
theorem d_replace_95 : decode b_replace 95 = .ok (.invokevirtual 98, 3) := by decide +kernel
theorem d_replace_98 : decode b_replace 98 = .ok (.aload_n 0, 1) := by decide +kernel
theorem d_replace_99 : decode b_replace 99 = .ok (.getfield 44, 3) := by decide +kernel
theorem d_replace_102 : decode b_replace 102 = .ok (.ireturn, 1) := by decide +kernel
theorem w_225 : Cond.methodLink "BreakPlaces" 86 y_take ∈ wA := wA_2 (i := 94) rfl rfl
theorem w_226 : Cond.instanceMethod y_take ∈ wA := wA_2 (i := 96) rfl rfl
theorem w_227 : Cond.selects "BreakPlaces" y_take y_take ∈ wA := wA_s (i := 16) rfl rfl
theorem w_228 : Cond.methodLink "BreakPlaces" 90 y_areCharacters ∈ wA := wA_2 (i := 98) rfl rfl
theorem w_229 : Cond.instanceMethod y_areCharacters ∈ wA := wA_2 (i := 100) rfl rfl
theorem w_230 : Cond.selects "BreakPlaces" y_areCharacters y_areCharacters ∈ wA := wA_s (i := 17) rfl rfl
theorem w_231 : Cond.methodLink "BreakPlaces" 98 y_putGiven ∈ wA := wA_2 (i := 104) rfl rfl
theorem w_232 : Cond.instanceMethod y_putGiven ∈ wA := wA_2 (i := 106) rfl rfl
theorem w_233 : Cond.selects "BreakPlaces" y_putGiven y_putGiven ∈ wA := wA_s (i := 18) rfl rfl
theorem w_234 : Cond.stringRef "BreakPlaces" 96 "more than 2000 characters" ∈ wN := wN_2 (i := 103) rfl rfl
theorem w_235 : Cond.stringRef "BreakPlaces" 94 "no character" ∈ wN := wN_2 (i := 102) rfl rfl
theorem w_236 : Cond.stringRef "BreakPlaces" 106 "no such places" ∈ wN := wN_2 (i := 132) rfl rfl
theorem k_areCharacters : Cond.code y_areCharacters b_areCharacters 3 (some .boolean) ∈ wA := wA_2 (i := 101) rfl rfl
theorem e_areCharacters : y_areCharacters.cls ≠ "java/lang/invoke/MethodHandle" ∧ y_areCharacters.cls ≠ "java/lang/invoke/VarHandle" ∧ (parseMethodDescriptor y_areCharacters.desc).map (fun d => d.parameters.length) = some 1 := by decide +kernel
theorem k_putGiven : Cond.code y_putGiven b_putGiven 6 none ∈ wA := wA_2 (i := 107) rfl rfl
theorem e_putGiven : y_putGiven.cls ≠ "java/lang/invoke/MethodHandle" ∧ y_putGiven.cls ≠ "java/lang/invoke/VarHandle" ∧ (parseMethodDescriptor y_putGiven.desc).map (fun d => d.parameters.length) = some 3 := by decide +kernel
theorem k_take : Cond.code y_take b_take 7 (some .int) ∈ wA := wA_2 (i := 97) rfl rfl
theorem e_take : y_take.cls ≠ "java/lang/invoke/MethodHandle" ∧ y_take.cls ≠ "java/lang/invoke/VarHandle" ∧ (parseMethodDescriptor y_take.desc).map (fun d => d.parameters.length) = some 5 := by decide +kernel
