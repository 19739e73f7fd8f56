theorem w_289 : Cond.methodLink "BreakPlacesLaw" 54 y_hProperty ∈ wA := wA_1 (i := 209) rfl rfl
theorem w_290 : Cond.initialized "BreakPlacesLaw" ∈ wA := wA_1 (i := 0) rfl rfl
theorem w_291 : Cond.static y_hProperty ∈ wA := wA_1 (i := 210) rfl rfl
theorem w_292 : Cond.methodLink "BreakPlacesLaw" 59 y_mProperty ∈ wA := wA_3 (i := 3) rfl rfl
theorem w_293 : Cond.instanceMethod y_mProperty ∈ wA := wA_3 (i := 4) rfl rfl
theorem w_294 : Cond.selects "BreakPlacesModel" y_mProperty y_mProperty ∈ wA := wA_3 (i := 5) rfl rfl
theorem w_295 : Cond.methodLink "BreakPlacesLaw" 60 y_mThrown ∈ wA := wA_2 (i := 239) rfl rfl
theorem w_296 : Cond.instanceMethod y_mThrown ∈ wA := wA_3 (i := 0) rfl rfl
theorem w_297 : Cond.selects "BreakPlacesModel" y_mThrown y_mThrown ∈ wA := wA_3 (i := 1) rfl rfl
theorem w_298 : Cond.methodLink "BreakPlacesLaw" 64 y_hMark ∈ wA := wA_2 (i := 78) rfl rfl
theorem w_299 : Cond.static y_hMark ∈ wA := wA_2 (i := 79) rfl rfl
theorem w_300 : Cond.methodLink "BreakPlacesLaw" 67 y_mMark ∈ wA := wA_3 (i := 15) rfl rfl
theorem w_301 : Cond.instanceMethod y_mMark ∈ wA := wA_3 (i := 16) rfl rfl
theorem w_302 : Cond.selects "BreakPlacesModel" y_mMark y_mMark ∈ wA := wA_3 (i := 17) rfl rfl
theorem w_303 : Cond.methodLink "BreakPlacesLaw" 68 y_loose ∈ wA := wA_1 (i := 109) rfl rfl
theorem w_304 : Cond.instanceMethod y_loose ∈ wA := wA_1 (i := 110) rfl rfl
theorem w_305 : Cond.selects "BreakPlaces" y_loose y_loose ∈ wA := wA_1 (i := 111) rfl rfl
theorem w_306 : Cond.methodLink "BreakPlacesLaw" 72 y_mLoose ∈ wA := wA_3 (i := 19) rfl rfl
theorem w_307 : Cond.instanceMethod y_mLoose ∈ wA := wA_3 (i := 20) rfl rfl
theorem w_308 : Cond.selects "BreakPlacesModel" y_mLoose y_mLoose ∈ wA := wA_3 (i := 21) rfl rfl
theorem w_309 : Cond.methodLink "BreakPlacesLaw" 73 y_hAdd ∈ wA := wA_2 (i := 87) rfl rfl
theorem w_310 : Cond.static y_hAdd ∈ wA := wA_2 (i := 88) rfl rfl
theorem w_311 : Cond.methodLink "BreakPlacesLaw" 76 y_mAdd ∈ wA := wA_3 (i := 23) rfl rfl
theorem w_312 : Cond.instanceMethod y_mAdd ∈ wA := wA_3 (i := 24) rfl rfl
theorem w_313 : Cond.selects "BreakPlacesModel" y_mAdd y_mAdd ∈ wA := wA_3 (i := 25) rfl rfl
theorem w_314 : Cond.methodLink "BreakPlacesLaw" 77 y_hReplace ∈ wA := wA_2 (i := 111) rfl rfl
theorem w_315 : Cond.static y_hReplace ∈ wA := wA_2 (i := 112) rfl rfl
theorem w_316 : Cond.methodLink "BreakPlacesLaw" 79 y_mReplace ∈ wA := wA_3 (i := 39) rfl rfl
theorem w_317 : Cond.instanceMethod y_mReplace ∈ wA := wA_3 (i := 40) rfl rfl
theorem w_318 : Cond.selects "BreakPlacesModel" y_mReplace y_mReplace ∈ wA := wA_3 (i := 41) rfl rfl
theorem w_319 : Cond.methodLink "BreakPlacesLaw" 80 y_clear ∈ wA := wA_1 (i := 118) rfl rfl
theorem w_320 : Cond.instanceMethod y_clear ∈ wA := wA_1 (i := 119) rfl rfl
theorem w_321 : Cond.selects "BreakPlaces" y_clear y_clear ∈ wA := wA_1 (i := 120) rfl rfl
theorem w_322 : Cond.methodLink "BreakPlacesLaw" 83 y_mClear ∈ wA := wA_3 (i := 43) rfl rfl
theorem w_323 : Cond.instanceMethod y_mClear ∈ wA := wA_3 (i := 44) rfl rfl
theorem w_324 : Cond.selects "BreakPlacesModel" y_mClear y_mClear ∈ wA := wA_3 (i := 45) rfl rfl
theorem w_325 : Cond.methodLink "BreakPlacesLaw" 84 y_hAt ∈ wA := wA_2 (i := 139) rfl rfl
theorem w_326 : Cond.static y_hAt ∈ wA := wA_2 (i := 140) rfl rfl
theorem w_327 : Cond.methodLink "BreakPlacesLaw" 87 y_mAt ∈ wA := wA_3 (i := 47) rfl rfl
theorem w_328 : Cond.instanceMethod y_mAt ∈ wA := wA_3 (i := 48) rfl rfl
theorem w_329 : Cond.selects "BreakPlacesModel" y_mAt y_mAt ∈ wA := wA_3 (i := 49) rfl rfl
theorem w_330 : Cond.methodLink "BreakPlacesLaw" 88 y_hKind ∈ wA := wA_2 (i := 151) rfl rfl
theorem w_331 : Cond.static y_hKind ∈ wA := wA_2 (i := 152) rfl rfl
theorem w_332 : Cond.methodLink "BreakPlacesLaw" 90 y_mKind ∈ wA := wA_3 (i := 55) rfl rfl
theorem w_333 : Cond.instanceMethod y_mKind ∈ wA := wA_3 (i := 56) rfl rfl
theorem w_334 : Cond.selects "BreakPlacesModel" y_mKind y_mKind ∈ wA := wA_3 (i := 57) rfl rfl
theorem w_335 : Cond.methodLink "BreakPlacesLaw" 91 y_hBreaks ∈ wA := wA_2 (i := 158) rfl rfl
theorem w_336 : Cond.static y_hBreaks ∈ wA := wA_2 (i := 159) rfl rfl
theorem w_337 : Cond.methodLink "BreakPlacesLaw" 93 y_mBreaks ∈ wA := wA_3 (i := 63) rfl rfl
theorem w_338 : Cond.instanceMethod y_mBreaks ∈ wA := wA_3 (i := 64) rfl rfl
theorem w_339 : Cond.selects "BreakPlacesModel" y_mBreaks y_mBreaks ∈ wA := wA_3 (i := 65) rfl rfl
theorem w_340 : Cond.methodLink "BreakPlacesLaw" 94 y_hRule ∈ wA := wA_2 (i := 166) rfl rfl
theorem w_341 : Cond.static y_hRule ∈ wA := wA_2 (i := 167) rfl rfl
theorem w_342 : Cond.methodLink "BreakPlacesLaw" 96 y_mRule ∈ wA := wA_3 (i := 135) rfl rfl
theorem w_343 : Cond.instanceMethod y_mRule ∈ wA := wA_3 (i := 136) rfl rfl
theorem w_344 : Cond.selects "BreakPlacesModel" y_mRule y_mRule ∈ wA := wA_3 (i := 137) rfl rfl
theorem w_345 : Cond.methodLink "BreakPlacesLaw" 97 y_hNext ∈ wA := wA_2 (i := 173) rfl rfl
theorem w_346 : Cond.static y_hNext ∈ wA := wA_2 (i := 174) rfl rfl
theorem w_347 : Cond.methodLink "BreakPlacesLaw" 99 y_mNext ∈ wA := wA_3 (i := 139) rfl rfl
theorem w_348 : Cond.instanceMethod y_mNext ∈ wA := wA_3 (i := 140) rfl rfl
theorem w_349 : Cond.selects "BreakPlacesModel" y_mNext y_mNext ∈ wA := wA_3 (i := 141) rfl rfl
theorem w_350 : Cond.methodLink "BreakPlacesLaw" 100 y_hFit ∈ wA := wA_2 (i := 180) rfl rfl
theorem w_351 : Cond.static y_hFit ∈ wA := wA_2 (i := 181) rfl rfl
theorem w_352 : Cond.methodLink "BreakPlacesLaw" 103 y_mFit ∈ wA := wA_3 (i := 143) rfl rfl
theorem w_353 : Cond.instanceMethod y_mFit ∈ wA := wA_3 (i := 144) rfl rfl
theorem w_354 : Cond.selects "BreakPlacesModel" y_mFit y_mFit ∈ wA := wA_3 (i := 145) rfl rfl
theorem w_355 : Cond.methodLink "BreakPlacesLaw" 104 y_count ∈ wA := wA_1 (i := 122) rfl rfl
theorem w_356 : Cond.instanceMethod y_count ∈ wA := wA_1 (i := 123) rfl rfl
theorem w_357 : Cond.selects "BreakPlaces" y_count y_count ∈ wA := wA_1 (i := 124) rfl rfl
theorem w_358 : Cond.methodLink "BreakPlacesLaw" 107 y_mCount ∈ wA := wA_3 (i := 150) rfl rfl
theorem w_359 : Cond.instanceMethod y_mCount ∈ wA := wA_3 (i := 151) rfl rfl
theorem w_360 : Cond.selects "BreakPlacesModel" y_mCount y_mCount ∈ wA := wA_3 (i := 152) rfl rfl
theorem k_clear : Cond.code y_clear b_clear 2 (some .int) ∈ wA := wA_1 (i := 121) rfl rfl
theorem e_clear : y_clear.cls ≠ "java/lang/invoke/MethodHandle" ∧ y_clear.cls ≠ "java/lang/invoke/VarHandle" ∧ (parseMethodDescriptor y_clear.desc).map (fun d => d.parameters.length) = some 0 := by decide +kernel
theorem k_count : Cond.code y_count b_count 4 (some .int) ∈ wA := wA_1 (i := 125) rfl rfl
theorem e_count : y_count.cls ≠ "java/lang/invoke/MethodHandle" ∧ y_count.cls ≠ "java/lang/invoke/VarHandle" ∧ (parseMethodDescriptor y_count.desc).map (fun d => d.parameters.length) = some 1 := by decide +kernel
theorem k_loose : Cond.code y_loose b_loose 3 (some .boolean) ∈ wA := wA_1 (i := 112) rfl rfl
theorem e_loose : y_loose.cls ≠ "java/lang/invoke/MethodHandle" ∧ y_loose.cls ≠ "java/lang/invoke/VarHandle" ∧ (parseMethodDescriptor y_loose.desc).map (fun d => d.parameters.length) = some 1 := by decide +kernel
theorem k_mAdd : Cond.code y_mAdd b_mAdd 8 (some .int) ∈ wA := wA_3 (i := 26) rfl rfl
theorem e_mAdd : y_mAdd.cls ≠ "java/lang/invoke/MethodHandle" ∧ y_mAdd.cls ≠ "java/lang/invoke/VarHandle" ∧ (parseMethodDescriptor y_mAdd.desc).map (fun d => d.parameters.length) = some 5 := by decide +kernel
theorem k_mAt : Cond.code y_mAt b_mAt 2 (some .int) ∈ wA := wA_3 (i := 50) rfl rfl
theorem e_mAt : y_mAt.cls ≠ "java/lang/invoke/MethodHandle" ∧ y_mAt.cls ≠ "java/lang/invoke/VarHandle" ∧ (parseMethodDescriptor y_mAt.desc).map (fun d => d.parameters.length) = some 1 := by decide +kernel
theorem k_mBreaks : Cond.code y_mBreaks b_mBreaks 2 (some .int) ∈ wA := wA_3 (i := 66) rfl rfl
theorem e_mBreaks : y_mBreaks.cls ≠ "java/lang/invoke/MethodHandle" ∧ y_mBreaks.cls ≠ "java/lang/invoke/VarHandle" ∧ (parseMethodDescriptor y_mBreaks.desc).map (fun d => d.parameters.length) = some 1 := by decide +kernel
theorem k_mClear : Cond.code y_mClear b_mClear 2 (some .int) ∈ wA := wA_3 (i := 46) rfl rfl
theorem e_mClear : y_mClear.cls ≠ "java/lang/invoke/MethodHandle" ∧ y_mClear.cls ≠ "java/lang/invoke/VarHandle" ∧ (parseMethodDescriptor y_mClear.desc).map (fun d => d.parameters.length) = some 0 := by decide +kernel
theorem k_mCount : Cond.code y_mCount b_mCount 4 (some .int) ∈ wA := wA_3 (i := 153) rfl rfl
theorem e_mCount : y_mCount.cls ≠ "java/lang/invoke/MethodHandle" ∧ y_mCount.cls ≠ "java/lang/invoke/VarHandle" ∧ (parseMethodDescriptor y_mCount.desc).map (fun d => d.parameters.length) = some 1 := by decide +kernel
theorem k_mFit : Cond.code y_mFit b_mFit 6 (some .int) ∈ wA := wA_3 (i := 146) rfl rfl
theorem e_mFit : y_mFit.cls ≠ "java/lang/invoke/MethodHandle" ∧ y_mFit.cls ≠ "java/lang/invoke/VarHandle" ∧ (parseMethodDescriptor y_mFit.desc).map (fun d => d.parameters.length) = some 2 := by decide +kernel
theorem k_mKind : Cond.code y_mKind b_mKind 2 (some .int) ∈ wA := wA_3 (i := 58) rfl rfl
theorem e_mKind : y_mKind.cls ≠ "java/lang/invoke/MethodHandle" ∧ y_mKind.cls ≠ "java/lang/invoke/VarHandle" ∧ (parseMethodDescriptor y_mKind.desc).map (fun d => d.parameters.length) = some 1 := by decide +kernel
theorem k_mLoose : Cond.code y_mLoose b_mLoose 3 (some .boolean) ∈ wA := wA_3 (i := 22) rfl rfl
theorem e_mLoose : y_mLoose.cls ≠ "java/lang/invoke/MethodHandle" ∧ y_mLoose.cls ≠ "java/lang/invoke/VarHandle" ∧ (parseMethodDescriptor y_mLoose.desc).map (fun d => d.parameters.length) = some 1 := by decide +kernel
theorem k_mMark : Cond.code y_mMark b_mMark 7 none ∈ wA := wA_3 (i := 18) rfl rfl
theorem e_mMark : y_mMark.cls ≠ "java/lang/invoke/MethodHandle" ∧ y_mMark.cls ≠ "java/lang/invoke/VarHandle" ∧ (parseMethodDescriptor y_mMark.desc).map (fun d => d.parameters.length) = some 4 := by decide +kernel
theorem k_mNext : Cond.code y_mNext b_mNext 3 (some .int) ∈ wA := wA_3 (i := 142) rfl rfl
theorem e_mNext : y_mNext.cls ≠ "java/lang/invoke/MethodHandle" ∧ y_mNext.cls ≠ "java/lang/invoke/VarHandle" ∧ (parseMethodDescriptor y_mNext.desc).map (fun d => d.parameters.length) = some 1 := by decide +kernel
theorem k_mProperty : Cond.code y_mProperty b_mProperty 5 none ∈ wA := wA_3 (i := 6) rfl rfl
theorem e_mProperty : y_mProperty.cls ≠ "java/lang/invoke/MethodHandle" ∧ y_mProperty.cls ≠ "java/lang/invoke/VarHandle" ∧ (parseMethodDescriptor y_mProperty.desc).map (fun d => d.parameters.length) = some 3 := by decide +kernel
theorem k_mReplace : Cond.code y_mReplace b_mReplace 10 (some .int) ∈ wA := wA_3 (i := 42) rfl rfl
theorem e_mReplace : y_mReplace.cls ≠ "java/lang/invoke/MethodHandle" ∧ y_mReplace.cls ≠ "java/lang/invoke/VarHandle" ∧ (parseMethodDescriptor y_mReplace.desc).map (fun d => d.parameters.length) = some 5 := by decide +kernel
theorem k_mRule : Cond.code y_mRule b_mRule 2 (some .int) ∈ wA := wA_3 (i := 138) rfl rfl
theorem e_mRule : y_mRule.cls ≠ "java/lang/invoke/MethodHandle" ∧ y_mRule.cls ≠ "java/lang/invoke/VarHandle" ∧ (parseMethodDescriptor y_mRule.desc).map (fun d => d.parameters.length) = some 1 := by decide +kernel
theorem k_mThrown : Cond.code y_mThrown b_mThrown 1 (some .int) ∈ wA := wA_3 (i := 2) rfl rfl
theorem e_mThrown : y_mThrown.cls ≠ "java/lang/invoke/MethodHandle" ∧ y_mThrown.cls ≠ "java/lang/invoke/VarHandle" ∧ (parseMethodDescriptor y_mThrown.desc).map (fun d => d.parameters.length) = some 0 := by decide +kernel
theorem kw_hAdd : Cond.codeWith y_hAdd b_hAdd 8 (some .int) [(0, 16, 19, 13), (0, 16, 23, 15)] ∈ wA := wA_2 (i := 89) rfl rfl
theorem e_hAdd : y_hAdd.cls ≠ "java/lang/invoke/MethodHandle" ∧ y_hAdd.cls ≠ "java/lang/invoke/VarHandle" ∧ (parseMethodDescriptor y_hAdd.desc).map (fun d => d.parameters.length) = some 7 := by decide +kernel
theorem kw_hAt : Cond.codeWith y_hAt b_hAt 4 (some .int) [(0, 9, 12, 28)] ∈ wA := wA_2 (i := 141) rfl rfl
theorem e_hAt : y_hAt.cls ≠ "java/lang/invoke/MethodHandle" ∧ y_hAt.cls ≠ "java/lang/invoke/VarHandle" ∧ (parseMethodDescriptor y_hAt.desc).map (fun d => d.parameters.length) = some 3 := by decide +kernel
theorem kw_hBreaks : Cond.codeWith y_hBreaks b_hBreaks 4 (some .int) [(0, 9, 12, 28)] ∈ wA := wA_2 (i := 160) rfl rfl
theorem e_hBreaks : y_hBreaks.cls ≠ "java/lang/invoke/MethodHandle" ∧ y_hBreaks.cls ≠ "java/lang/invoke/VarHandle" ∧ (parseMethodDescriptor y_hBreaks.desc).map (fun d => d.parameters.length) = some 3 := by decide +kernel
theorem kw_hFit : Cond.codeWith y_hFit b_hFit 5 (some .int) [(0, 10, 13, 28), (0, 10, 17, 13)] ∈ wA := wA_2 (i := 182) rfl rfl
theorem e_hFit : y_hFit.cls ≠ "java/lang/invoke/MethodHandle" ∧ y_hFit.cls ≠ "java/lang/invoke/VarHandle" ∧ (parseMethodDescriptor y_hFit.desc).map (fun d => d.parameters.length) = some 4 := by decide +kernel
theorem kw_hKind : Cond.codeWith y_hKind b_hKind 4 (some .int) [(0, 9, 12, 28)] ∈ wA := wA_2 (i := 153) rfl rfl
theorem e_hKind : y_hKind.cls ≠ "java/lang/invoke/MethodHandle" ∧ y_hKind.cls ≠ "java/lang/invoke/VarHandle" ∧ (parseMethodDescriptor y_hKind.desc).map (fun d => d.parameters.length) = some 3 := by decide +kernel
theorem kw_hMark : Cond.codeWith y_hMark b_hMark 6 (some .int) [(0, 9, 12, 13), (0, 9, 16, 15)] ∈ wA := wA_2 (i := 80) rfl rfl
theorem e_hMark : y_hMark.cls ≠ "java/lang/invoke/MethodHandle" ∧ y_hMark.cls ≠ "java/lang/invoke/VarHandle" ∧ (parseMethodDescriptor y_hMark.desc).map (fun d => d.parameters.length) = some 5 := by decide +kernel
theorem kw_hNext : Cond.codeWith y_hNext b_hNext 4 (some .int) [(0, 9, 12, 28)] ∈ wA := wA_2 (i := 175) rfl rfl
theorem e_hNext : y_hNext.cls ≠ "java/lang/invoke/MethodHandle" ∧ y_hNext.cls ≠ "java/lang/invoke/VarHandle" ∧ (parseMethodDescriptor y_hNext.desc).map (fun d => d.parameters.length) = some 3 := by decide +kernel
theorem kw_hProperty : Cond.codeWith y_hProperty b_hProperty 5 (some .int) [(0, 7, 10, 13), (0, 7, 14, 15)] ∈ wA := wA_1 (i := 211) rfl rfl
theorem e_hProperty : y_hProperty.cls ≠ "java/lang/invoke/MethodHandle" ∧ y_hProperty.cls ≠ "java/lang/invoke/VarHandle" ∧ (parseMethodDescriptor y_hProperty.desc).map (fun d => d.parameters.length) = some 4 := by decide +kernel
theorem kw_hReplace : Cond.codeWith y_hReplace b_hReplace 8 (some .int) [(0, 16, 19, 28), (0, 16, 23, 13), (0, 16, 27, 15)] ∈ wA := wA_2 (i := 113) rfl rfl
theorem e_hReplace : y_hReplace.cls ≠ "java/lang/invoke/MethodHandle" ∧ y_hReplace.cls ≠ "java/lang/invoke/VarHandle" ∧ (parseMethodDescriptor y_hReplace.desc).map (fun d => d.parameters.length) = some 7 := by decide +kernel
theorem kw_hRule : Cond.codeWith y_hRule b_hRule 4 (some .int) [(0, 9, 12, 28)] ∈ wA := wA_2 (i := 168) rfl rfl
theorem e_hRule : y_hRule.cls ≠ "java/lang/invoke/MethodHandle" ∧ y_hRule.cls ≠ "java/lang/invoke/VarHandle" ∧ (parseMethodDescriptor y_hRule.desc).map (fun d => d.parameters.length) = some 3 := by decide +kernel
