theorem w_0 : Cond.constant "BreakPlaces" 134 1114111 ∈ wA := wA_1 (i := 224) rfl rfl
theorem w_1 : Cond.methodLink "BreakPlaces" 135 y_isCharacter ∈ wA := wA_1 (i := 221) rfl rfl
theorem w_2 : Cond.static y_isCharacter ∈ wA := wA_1 (i := 222) rfl rfl
theorem w_3 : Cond.initialized "BreakPlaces" ∈ wA := wA_1 (i := 1) rfl rfl
theorem w_4 : Cond.constantLong "BreakPlaces" 235 384 ∈ wA := wA_1 (i := 161) rfl rfl
theorem w_5 : Cond.methodLink "BreakPlaces" 130 y_isIn ∈ wA := wA_1 (i := 147) rfl rfl
theorem w_6 : Cond.static y_isIn ∈ wA := wA_1 (i := 148) rfl rfl
theorem w_7 : Cond.constantLong "BreakPlaces" 204 71532544 ∈ wA := wA_1 (i := 166) rfl rfl
theorem w_8 : Cond.constantLong "BreakPlaces" 202 10240 ∈ wA := wA_1 (i := 165) rfl rfl
theorem w_9 : Cond.constantLong "BreakPlaces" 206 98304 ∈ wA := wA_1 (i := 170) rfl rfl
theorem w_10 : Cond.constantLong "BreakPlaces" 211 402653184 ∈ wA := wA_1 (i := 178) rfl rfl
theorem w_11 : Cond.constantLong "BreakPlaces" 213 3758096384 ∈ wA := wA_1 (i := 179) rfl rfl
theorem w_12 : Cond.constantLong "BreakPlaces" 215 50331648 ∈ wA := wA_1 (i := 180) rfl rfl
theorem w_13 : Cond.constantLong "BreakPlaces" 217 8486912 ∈ wA := wA_1 (i := 181) rfl rfl
theorem w_14 : Cond.constantLong "BreakPlaces" 219 79699968 ∈ wA := wA_1 (i := 182) rfl rfl
theorem w_15 : Cond.constantLong "BreakPlaces" 221 133143986176 ∈ wA := wA_1 (i := 186) rfl rfl
theorem w_16 : Cond.fieldLink "BreakPlaces$Ranges" 19 "BreakPlaces$Ranges" "many" "I" ∈ wA := wA_1 (i := 29) rfl rfl
theorem w_17 : Cond.fieldLink "BreakPlaces$Ranges" 7 "BreakPlaces$Ranges" "firsts" "[I" ∈ wA := wA_1 (i := 26) rfl rfl
theorem w_18 : Cond.methodLink "BreakPlaces$Ranges" 23 y_rIsFull ∈ wA := wA_2 (i := 77) rfl rfl
theorem w_19 : Cond.instanceMethod y_rIsFull ∈ wA := wA_2 (i := 55) rfl rfl
theorem w_20 : Cond.selects "BreakPlaces$Ranges" y_rIsFull y_rIsFull ∈ wA := wA_s (i := 14) rfl rfl
theorem w_21 : Cond.initialized "BreakPlaces$Ranges" ∈ wA := wA_1 (i := 2) rfl rfl
theorem w_22 : Cond.fieldLink "BreakPlaces$Ranges" 13 "BreakPlaces$Ranges" "lasts" "[I" ∈ wA := wA_1 (i := 27) rfl rfl
theorem w_23 : Cond.fieldLink "BreakPlaces$Ranges" 16 "BreakPlaces$Ranges" "values" "[I" ∈ wA := wA_1 (i := 28) rfl rfl
theorem w_24 : Cond.methodLinkNest "BreakPlaces" 144 y_rValueOf "BreakPlaces" ∈ wN := wN_1 (i := 195) rfl rfl
theorem w_25 : Cond.instanceMethod y_rValueOf ∈ wA := wA_1 (i := 197) rfl rfl
theorem w_26 : Cond.selects "BreakPlaces$Ranges" y_rValueOf y_rValueOf ∈ wA := wA_s (i := 10) rfl rfl
theorem w_27 : Cond.fieldLink "BreakPlaces$Before" 14 "BreakPlaces$Before" "last" "I" ∈ wA := wA_1 (i := 50) rfl rfl
theorem w_28 : Cond.fieldLink "BreakPlaces$Before" 18 "BreakPlaces$Before" "a" "I" ∈ wA := wA_1 (i := 52) rfl rfl
theorem w_29 : Cond.fieldLink "BreakPlaces$Before" 21 "BreakPlaces$Before" "characterA" "I" ∈ wA := wA_1 (i := 54) rfl rfl
theorem w_30 : Cond.fieldLink "BreakPlaces$Before" 24 "BreakPlaces$Before" "beforeA" "I" ∈ wA := wA_1 (i := 56) rfl rfl
theorem w_31 : Cond.fieldLink "BreakPlaces$Before" 27 "BreakPlaces$Before" "solid" "I" ∈ wA := wA_1 (i := 58) rfl rfl
theorem w_32 : Cond.fieldLink "BreakPlaces$Before" 30 "BreakPlaces$Before" "oddRow" "Z" ∈ wA := wA_1 (i := 60) rfl rfl
theorem w_33 : Cond.constantLong "BreakPlaces$Before" 34 384 ∈ wA := wA_1 (i := 155) rfl rfl
theorem w_34 : Cond.methodLinkNest "BreakPlaces$Before" 36 y_isIn "BreakPlaces" ∈ wN := wN_1 (i := 156) rfl rfl
theorem w_35 : Cond.constantLong "BreakPlaces$Before" 40 63 ∈ wA := wA_1 (i := 157) rfl rfl
theorem w_36 : Cond.methodLink "BreakPlaces$Before" 42 y_bLeavesout ∈ wA := wA_1 (i := 203) rfl rfl
theorem w_37 : Cond.instanceMethod y_bLeavesout ∈ wA := wA_1 (i := 153) rfl rfl
theorem w_38 : Cond.selects "BreakPlaces$Before" y_bLeavesout y_bLeavesout ∈ wA := wA_s (i := 7) rfl rfl
theorem w_39 : Cond.initialized "BreakPlaces$Before" ∈ wA := wA_1 (i := 3) rfl rfl
theorem w_40 : Cond.methodLinkNest "BreakPlaces$Before" 46 y_standsFor "BreakPlaces" ∈ wN := wN_1 (i := 204) rfl rfl
theorem w_41 : Cond.static y_standsFor ∈ wA := wA_1 (i := 159) rfl rfl
theorem w_42 : Cond.fieldLink "BreakPlaces" 44 "BreakPlaces" "length" "I" ∈ wA := wA_1 (i := 83) rfl rfl
theorem w_43 : Cond.fieldLink "BreakPlaces" 52 "BreakPlaces" "known" "I" ∈ wA := wA_1 (i := 85) rfl rfl
theorem w_44 : Cond.fieldLink "BreakPlaces" 40 "BreakPlaces" "before" "LBreakPlaces$Before;" ∈ wA := wA_1 (i := 82) rfl rfl
theorem w_45 : Cond.methodLinkNest "BreakPlaces" 148 y_bStart "BreakPlaces" ∈ wN := wN_1 (i := 117) rfl rfl
theorem w_46 : Cond.instanceMethod y_bStart ∈ wA := wA_1 (i := 48) rfl rfl
theorem w_47 : Cond.selects "BreakPlaces$Before" y_bStart y_bStart ∈ wA := wA_s (i := 0) rfl rfl
theorem w_48 : Cond.fieldLink "BreakPlaces" 13 "BreakPlaces" "classes" "[I" ∈ wA := wA_1 (i := 76) rfl rfl
theorem w_49 : Cond.fieldLink "BreakPlaces" 48 "BreakPlaces" "isLoose" "Z" ∈ wA := wA_1 (i := 84) rfl rfl
theorem w_50 : Cond.methodLink "BreakPlaces" 114 y_kindAt ∈ wA := wA_1 (i := 134) rfl rfl
theorem w_51 : Cond.instanceMethod y_kindAt ∈ wA := wA_1 (i := 136) rfl rfl
theorem w_52 : Cond.selects "BreakPlaces" y_kindAt y_kindAt ∈ wA := wA_s (i := 4) rfl rfl
theorem w_53 : Cond.fieldLinkNest "BreakPlaces" 192 "BreakPlaces$Before" "last" "I" "BreakPlaces" ∈ wN := wN_1 (i := 51) rfl rfl
theorem w_54 : Cond.constantLong "BreakPlaces" 195 15 ∈ wA := wA_1 (i := 146) rfl rfl
theorem w_55 : Cond.constantLong "BreakPlaces" 197 48 ∈ wA := wA_1 (i := 150) rfl rfl
theorem w_56 : Cond.fieldLinkNest "BreakPlaces" 173 "BreakPlaces$Before" "solid" "I" "BreakPlaces" ∈ wN := wN_1 (i := 59) rfl rfl
theorem w_57 : Cond.methodLinkNest "BreakPlaces" 199 y_bLeavesout "BreakPlaces" ∈ wN := wN_1 (i := 151) rfl rfl
theorem w_58 : Cond.fieldLinkNest "BreakPlaces" 208 "BreakPlaces$Before" "beforeA" "I" "BreakPlaces" ∈ wN := wN_1 (i := 57) rfl rfl
theorem w_59 : Cond.constantLong "BreakPlaces" 223 411041792 ∈ wA := wA_1 (i := 191) rfl rfl
theorem w_60 : Cond.fieldLink "BreakPlaces" 34 "BreakPlaces" "pictures" "LBreakPlaces$Ranges;" ∈ wA := wA_1 (i := 81) rfl rfl
theorem w_61 : Cond.fieldLinkNest "BreakPlaces" 229 "BreakPlaces$Before" "characterA" "I" "BreakPlaces" ∈ wN := wN_1 (i := 55) rfl rfl
theorem w_62 : Cond.methodLink "BreakPlaces" 225 y_isMarked ∈ wA := wA_1 (i := 192) rfl rfl
theorem w_63 : Cond.static y_isMarked ∈ wA := wA_1 (i := 193) rfl rfl
theorem w_64 : Cond.fieldLinkNest "BreakPlaces" 232 "BreakPlaces$Before" "oddRow" "Z" "BreakPlaces" ∈ wN := wN_1 (i := 61) rfl rfl
theorem w_65 : Cond.fieldLink "BreakPlaces" 31 "BreakPlaces" "wide" "LBreakPlaces$Ranges;" ∈ wA := wA_1 (i := 80) rfl rfl
theorem w_66 : Cond.methodLink "BreakPlaces" 161 y_ruleOfSpaces ∈ wA := wA_1 (i := 142) rfl rfl
theorem w_67 : Cond.instanceMethod y_ruleOfSpaces ∈ wA := wA_1 (i := 144) rfl rfl
theorem w_68 : Cond.selects "BreakPlaces" y_ruleOfSpaces y_ruleOfSpaces ∈ wA := wA_s (i := 6) rfl rfl
theorem w_69 : Cond.methodLink "BreakPlaces" 164 y_standsFor ∈ wA := wA_1 (i := 158) rfl rfl
theorem w_70 : Cond.fieldLinkNest "BreakPlaces" 167 "BreakPlaces$Before" "a" "I" "BreakPlaces" ∈ wN := wN_1 (i := 53) rfl rfl
theorem w_71 : Cond.methodLink "BreakPlaces" 170 y_ruleOfGlue ∈ wA := wA_1 (i := 162) rfl rfl
theorem w_72 : Cond.static y_ruleOfGlue ∈ wA := wA_1 (i := 163) rfl rfl
theorem w_73 : Cond.methodLink "BreakPlaces" 188 y_ruleOfMarks ∈ wA := wA_1 (i := 187) rfl rfl
theorem w_74 : Cond.instanceMethod y_ruleOfMarks ∈ wA := wA_1 (i := 189) rfl rfl
theorem w_75 : Cond.selects "BreakPlaces" y_ruleOfMarks y_ruleOfMarks ∈ wA := wA_s (i := 9) rfl rfl
theorem w_76 : Cond.methodLink "BreakPlaces" 185 y_ruleOfWords ∈ wA := wA_1 (i := 183) rfl rfl
theorem w_77 : Cond.static y_ruleOfWords ∈ wA := wA_1 (i := 184) rfl rfl
theorem w_78 : Cond.methodLink "BreakPlaces" 182 y_ruleOfNumbers ∈ wA := wA_1 (i := 175) rfl rfl
theorem w_79 : Cond.static y_ruleOfNumbers ∈ wA := wA_1 (i := 176) rfl rfl
theorem w_80 : Cond.methodLink "BreakPlaces" 179 y_ruleOfSigns ∈ wA := wA_1 (i := 171) rfl rfl
theorem w_81 : Cond.instanceMethod y_ruleOfSigns ∈ wA := wA_1 (i := 173) rfl rfl
theorem w_82 : Cond.selects "BreakPlaces" y_ruleOfSigns y_ruleOfSigns ∈ wA := wA_s (i := 8) rfl rfl
theorem w_83 : Cond.methodLink "BreakPlaces" 176 y_ruleAcrossSpaces ∈ wA := wA_1 (i := 167) rfl rfl
theorem w_84 : Cond.static y_ruleAcrossSpaces ∈ wA := wA_1 (i := 168) rfl rfl
theorem w_85 : Cond.fieldLink "BreakPlaces" 19 "BreakPlaces" "given" "[I" ∈ wA := wA_1 (i := 78) rfl rfl
theorem w_86 : Cond.methodLink "BreakPlaces" 79 y_forgetRules ∈ wA := wA_1 (i := 113) rfl rfl
theorem w_87 : Cond.instanceMethod y_forgetRules ∈ wA := wA_1 (i := 115) rfl rfl
theorem w_88 : Cond.selects "BreakPlaces" y_forgetRules y_forgetRules ∈ wA := wA_s (i := 1) rfl rfl
theorem w_89 : Cond.fieldLink "BreakPlaces" 9 "BreakPlaces" "text" "[I" ∈ wA := wA_1 (i := 75) rfl rfl
theorem w_90 : Cond.fieldLink "BreakPlaces" 27 "BreakPlaces" "classRanges" "LBreakPlaces$Ranges;" ∈ wA := wA_1 (i := 79) rfl rfl
theorem w_91 : Cond.methodLink "BreakPlaces" 138 arraycopyName ∈ wA := wA_2 (i := 108) rfl rfl
theorem w_92 : Cond.native arraycopyName ∈ wA := wA_2 (i := 110) rfl rfl
theorem w_93 : Cond.static arraycopyName ∈ wA := wA_2 (i := 109) rfl rfl
theorem w_94 : Cond.initialized "java/lang/System" ∈ wA := wA_1 (i := 10) rfl rfl
theorem w_95 : Cond.fieldLink "BreakPlaces" 16 "BreakPlaces" "rules" "[I" ∈ wA := wA_1 (i := 77) rfl rfl
theorem w_96 : Cond.methodLink "BreakPlaces" 154 y_findRule ∈ wA := wA_1 (i := 138) rfl rfl
theorem w_97 : Cond.instanceMethod y_findRule ∈ wA := wA_1 (i := 140) rfl rfl
theorem w_98 : Cond.selects "BreakPlaces" y_findRule y_findRule ∈ wA := wA_s (i := 5) rfl rfl
theorem w_99 : Cond.methodLinkNest "BreakPlaces" 157 y_bPass "BreakPlaces" ∈ wN := wN_1 (i := 199) rfl rfl
theorem w_100 : Cond.instanceMethod y_bPass ∈ wA := wA_1 (i := 201) rfl rfl
theorem w_101 : Cond.selects "BreakPlaces$Before" y_bPass y_bPass ∈ wA := wA_s (i := 11) rfl rfl
theorem w_102 : Cond.methodLink "BreakPlaces" 123 y_ruleAt ∈ wA := wA_1 (i := 130) rfl rfl
theorem w_103 : Cond.instanceMethod y_ruleAt ∈ wA := wA_1 (i := 132) rfl rfl
theorem w_104 : Cond.selects "BreakPlaces" y_ruleAt y_ruleAt ∈ wA := wA_s (i := 3) rfl rfl
theorem w_105 : Cond.methodLink "BreakPlaces" 151 y_isBetween ∈ wA := wA_1 (i := 205) rfl rfl
theorem w_106 : Cond.instanceMethod y_isBetween ∈ wA := wA_1 (i := 207) rfl rfl
theorem w_107 : Cond.selects "BreakPlaces" y_isBetween y_isBetween ∈ wA := wA_s (i := 12) rfl rfl
theorem w_108 : Cond.methodLink "BreakPlaces" 109 y_isPosition ∈ wA := wA_2 (i := 146) rfl rfl
theorem w_109 : Cond.instanceMethod y_isPosition ∈ wA := wA_2 (i := 148) rfl rfl
theorem w_110 : Cond.selects "BreakPlaces" y_isPosition y_isPosition ∈ wA := wA_s (i := 20) rfl rfl
theorem w_111 : Cond.classLink "BreakPlaces" 104 "java/lang/IndexOutOfBoundsException" ∈ wA := wA_2 (i := 123) rfl rfl
theorem w_112 : Cond.initialized "java/lang/IndexOutOfBoundsException" ∈ wA := wA_1 (i := 11) rfl rfl
theorem w_113 : Cond.stringRef "BreakPlaces" 112 "no such position" ∈ wN := wN_2 (i := 150) rfl rfl
theorem w_114 : Cond.methodLink "BreakPlaces" 101 y_isPlace ∈ wA := wA_2 (i := 119) rfl rfl
theorem w_115 : Cond.instanceMethod y_isPlace ∈ wA := wA_2 (i := 121) rfl rfl
theorem w_116 : Cond.selects "BreakPlaces" y_isPlace y_isPlace ∈ wA := wA_s (i := 19) rfl rfl
theorem w_117 : Cond.methodLink "BreakPlaces" 120 y_breaksAt ∈ wA := wA_1 (i := 126) rfl rfl
theorem w_118 : Cond.instanceMethod y_breaksAt ∈ wA := wA_1 (i := 128) rfl rfl
theorem w_119 : Cond.selects "BreakPlaces" y_breaksAt y_breaksAt ∈ wA := wA_s (i := 2) rfl rfl
theorem w_120 : Cond.stringRef "BreakPlaces" 118 "no such place" ∈ wN := wN_2 (i := 165) rfl rfl
theorem w_121 : Cond.constantLong "BreakPlaces" 128 31 ∈ wA := wA_2 (i := 188) rfl rfl
theorem w_122 : Cond.classLink "BreakPlaces" 59 "java/lang/IllegalArgumentException" ∈ wA := wA_1 (i := 225) rfl rfl
theorem w_123 : Cond.initialized "java/lang/IllegalArgumentException" ∈ wA := wA_1 (i := 8) rfl rfl
theorem w_124 : Cond.stringRef "BreakPlaces" 126 "room is not 1 .. 2000" ∈ wN := wN_2 (i := 187) rfl rfl
theorem w_125 : Cond.methodLink "BreakPlaces" 55 y_isRange ∈ wA := wA_1 (i := 218) rfl rfl
theorem w_126 : Cond.static y_isRange ∈ wA := wA_1 (i := 219) rfl rfl
theorem w_127 : Cond.methodLinkNest "BreakPlaces" 66 y_rIsFull "BreakPlaces" ∈ wN := wN_2 (i := 53) rfl rfl
theorem w_128 : Cond.methodLinkNest "BreakPlaces" 75 y_rTell "BreakPlaces" ∈ wN := wN_2 (i := 73) rfl rfl
theorem w_129 : Cond.instanceMethod y_rTell ∈ wA := wA_2 (i := 75) rfl rfl
theorem w_130 : Cond.selects "BreakPlaces$Ranges" y_rTell y_rTell ∈ wA := wA_s (i := 15) rfl rfl
theorem w_131 : Cond.stringRef "BreakPlaces" 61 "no range of characters, or no class" ∈ wN := wN_2 (i := 26) rfl rfl
theorem w_132 : Cond.classLink "BreakPlaces" 70 "java/lang/IllegalStateException" ∈ wA := wA_2 (i := 57) rfl rfl
theorem w_133 : Cond.initialized "java/lang/IllegalStateException" ∈ wA := wA_1 (i := 9) rfl rfl
theorem w_134 : Cond.stringRef "BreakPlaces" 72 "there are 100 ranges of classes" ∈ wN := wN_2 (i := 66) rfl rfl
theorem w_135 : Cond.stringRef "BreakPlaces" 82 "no range of characters, or no such mark" ∈ wN := wN_2 (i := 85) rfl rfl
theorem w_136 : Cond.stringRef "BreakPlaces" 84 "there are 40 ranges of that mark" ∈ wN := wN_2 (i := 86) rfl rfl
theorem w_137 : Cond.constant "BreakPlacesModel" 42 1114111 ∈ wA := wA_3 (i := 10) rfl rfl
theorem w_138 : Cond.fieldLink "BreakPlacesModel" 38 "BreakPlacesModel" "fault" "I" ∈ wA := wA_2 (i := 195) rfl rfl
theorem w_139 : Cond.fieldLink "BreakPlacesModel" 80 "BreakPlacesModel" "held" "I" ∈ wA := wA_2 (i := 208) rfl rfl
theorem w_140 : Cond.fieldLink "BreakPlacesModel" 68 "BreakPlacesModel" "size" "I" ∈ wA := wA_2 (i := 205) rfl rfl
theorem w_141 : Cond.fieldLink "BreakPlacesModel" 53 "BreakPlacesModel" "isLoose" "Z" ∈ wA := wA_2 (i := 204) rfl rfl
theorem w_142 : Cond.fieldLink "BreakPlacesModel" 35 "BreakPlacesModel" "fresh" "[I" ∈ wA := wA_2 (i := 207) rfl rfl
theorem w_143 : Cond.methodLink "BreakPlacesModel" 43 y_mIsChar ∈ wA := wA_3 (i := 7) rfl rfl
theorem w_144 : Cond.static y_mIsChar ∈ wA := wA_3 (i := 8) rfl rfl
theorem w_145 : Cond.initialized "BreakPlacesModel" ∈ wA := wA_1 (i := 4) rfl rfl
theorem w_146 : Cond.methodLink "BreakPlacesModel" 50 y_mRefused ∈ wA := wA_3 (i := 11) rfl rfl
theorem w_147 : Cond.instanceMethod y_mRefused ∈ wA := wA_3 (i := 13) rfl rfl
theorem w_148 : Cond.selects "BreakPlacesModel" y_mRefused y_mRefused ∈ wA := wA_s (i := 21) rfl rfl
theorem w_149 : Cond.fieldLink "BreakPlacesModel" 47 "BreakPlacesModel" "ranges" "I" ∈ wA := wA_2 (i := 196) rfl rfl
theorem w_150 : Cond.fieldLink "BreakPlacesModel" 7 "BreakPlacesModel" "firsts" "[I" ∈ wA := wA_2 (i := 197) rfl rfl
theorem w_151 : Cond.fieldLink "BreakPlacesModel" 13 "BreakPlacesModel" "lasts" "[I" ∈ wA := wA_2 (i := 198) rfl rfl
theorem w_152 : Cond.fieldLink "BreakPlacesModel" 16 "BreakPlacesModel" "kinds" "[I" ∈ wA := wA_2 (i := 199) rfl rfl
theorem w_153 : Cond.methodLink "BreakPlacesModel" 57 y_mKeep ∈ wA := wA_3 (i := 27) rfl rfl
theorem w_154 : Cond.instanceMethod y_mKeep ∈ wA := wA_3 (i := 29) rfl rfl
theorem w_155 : Cond.selects "BreakPlacesModel" y_mKeep y_mKeep ∈ wA := wA_s (i := 22) rfl rfl
theorem w_156 : Cond.methodLink "BreakPlacesModel" 61 y_mGiven ∈ wA := wA_3 (i := 31) rfl rfl
theorem w_157 : Cond.instanceMethod y_mGiven ∈ wA := wA_3 (i := 33) rfl rfl
theorem w_158 : Cond.selects "BreakPlacesModel" y_mGiven y_mGiven ∈ wA := wA_s (i := 23) rfl rfl
theorem w_159 : Cond.methodLink "BreakPlacesModel" 65 y_mIsSound ∈ wA := wA_3 (i := 35) rfl rfl
theorem w_160 : Cond.instanceMethod y_mIsSound ∈ wA := wA_3 (i := 37) rfl rfl
theorem w_161 : Cond.selects "BreakPlacesModel" y_mIsSound y_mIsSound ∈ wA := wA_s (i := 24) rfl rfl
theorem w_162 : Cond.fieldLink "BreakPlacesModel" 32 "BreakPlacesModel" "text" "[I" ∈ wA := wA_2 (i := 206) rfl rfl
theorem w_163 : Cond.fieldLink "BreakPlacesModel" 19 "BreakPlacesModel" "marks" "[I" ∈ wA := wA_2 (i := 200) rfl rfl
theorem w_164 : Cond.fieldLink "BreakPlacesModel" 22 "BreakPlacesModel" "markFirsts" "[I" ∈ wA := wA_2 (i := 201) rfl rfl
theorem w_165 : Cond.fieldLink "BreakPlacesModel" 25 "BreakPlacesModel" "markLasts" "[I" ∈ wA := wA_2 (i := 202) rfl rfl
theorem w_166 : Cond.fieldLink "BreakPlacesModel" 28 "BreakPlacesModel" "markAre" "[Z" ∈ wA := wA_2 (i := 203) rfl rfl
theorem w_167 : Cond.methodLink "BreakPlacesModel" 71 y_mClassOf ∈ wA := wA_3 (i := 59) rfl rfl
theorem w_168 : Cond.instanceMethod y_mClassOf ∈ wA := wA_3 (i := 61) rfl rfl
theorem w_169 : Cond.selects "BreakPlacesModel" y_mClassOf y_mClassOf ∈ wA := wA_s (i := 26) rfl rfl
theorem w_170 : Cond.methodLink "BreakPlacesModel" 74 y_mIsMark ∈ wA := wA_3 (i := 87) rfl rfl
theorem w_171 : Cond.instanceMethod y_mIsMark ∈ wA := wA_3 (i := 89) rfl rfl
theorem w_172 : Cond.selects "BreakPlacesModel" y_mIsMark y_mIsMark ∈ wA := wA_s (i := 32) rfl rfl
theorem w_173 : Cond.methodLink "BreakPlacesModel" 77 y_mIsLeftOut ∈ wA := wA_3 (i := 83) rfl rfl
theorem w_174 : Cond.instanceMethod y_mIsLeftOut ∈ wA := wA_3 (i := 85) rfl rfl
theorem w_175 : Cond.selects "BreakPlacesModel" y_mIsLeftOut y_mIsLeftOut ∈ wA := wA_s (i := 31) rfl rfl
theorem w_176 : Cond.methodLink "BreakPlacesModel" 83 y_mTell ∈ wA := wA_3 (i := 79) rfl rfl
theorem w_177 : Cond.instanceMethod y_mTell ∈ wA := wA_3 (i := 81) rfl rfl
theorem w_178 : Cond.selects "BreakPlacesModel" y_mTell y_mTell ∈ wA := wA_s (i := 30) rfl rfl
theorem w_179 : Cond.methodLink "BreakPlacesModel" 87 y_mBase ∈ wA := wA_3 (i := 91) rfl rfl
theorem w_180 : Cond.instanceMethod y_mBase ∈ wA := wA_3 (i := 93) rfl rfl
theorem w_181 : Cond.selects "BreakPlacesModel" y_mBase y_mBase ∈ wA := wA_s (i := 33) rfl rfl
theorem w_182 : Cond.methodLink "BreakPlacesModel" 90 y_mBaseClass ∈ wA := wA_3 (i := 95) rfl rfl
theorem w_183 : Cond.instanceMethod y_mBaseClass ∈ wA := wA_3 (i := 97) rfl rfl
theorem w_184 : Cond.selects "BreakPlacesModel" y_mBaseClass y_mBaseClass ∈ wA := wA_s (i := 34) rfl rfl
theorem w_185 : Cond.methodLink "BreakPlacesModel" 93 y_mBeforeSpaces ∈ wA := wA_3 (i := 103) rfl rfl
theorem w_186 : Cond.instanceMethod y_mBeforeSpaces ∈ wA := wA_3 (i := 105) rfl rfl
theorem w_187 : Cond.selects "BreakPlacesModel" y_mBeforeSpaces y_mBeforeSpaces ∈ wA := wA_s (i := 36) rfl rfl
theorem w_188 : Cond.methodLink "BreakPlacesModel" 96 y_mIsLetter ∈ wA := wA_3 (i := 111) rfl rfl
theorem w_189 : Cond.static y_mIsLetter ∈ wA := wA_3 (i := 112) rfl rfl
theorem w_190 : Cond.methodLink "BreakPlacesModel" 99 y_mIsNumeric ∈ wA := wA_3 (i := 118) rfl rfl
theorem w_191 : Cond.static y_mIsNumeric ∈ wA := wA_3 (i := 119) rfl rfl
theorem w_192 : Cond.methodLink "BreakPlacesModel" 103 y_mIsSyllable ∈ wA := wA_3 (i := 121) rfl rfl
theorem w_193 : Cond.static y_mIsSyllable ∈ wA := wA_3 (i := 122) rfl rfl
theorem w_194 : Cond.methodLink "BreakPlacesModel" 106 y_mIsHangul ∈ wA := wA_3 (i := 124) rfl rfl
theorem w_195 : Cond.static y_mIsHangul ∈ wA := wA_3 (i := 125) rfl rfl
theorem w_196 : Cond.methodLink "BreakPlacesModel" 109 y_mIsMarked ∈ wA := wA_3 (i := 127) rfl rfl
theorem w_197 : Cond.instanceMethod y_mIsMarked ∈ wA := wA_3 (i := 129) rfl rfl
theorem w_198 : Cond.selects "BreakPlacesModel" y_mIsMarked y_mIsMarked ∈ wA := wA_s (i := 39) rfl rfl
theorem w_199 : Cond.methodLink "BreakPlacesModel" 112 y_mFlags ∈ wA := wA_3 (i := 131) rfl rfl
theorem w_200 : Cond.instanceMethod y_mFlags ∈ wA := wA_3 (i := 133) rfl rfl
theorem w_201 : Cond.selects "BreakPlacesModel" y_mFlags y_mFlags ∈ wA := wA_s (i := 40) rfl rfl
theorem w_202 : Cond.methodLink "BreakPlacesModel" 115 y_mEarly ∈ wA := wA_3 (i := 75) rfl rfl
theorem w_203 : Cond.instanceMethod y_mEarly ∈ wA := wA_3 (i := 77) rfl rfl
theorem w_204 : Cond.selects "BreakPlacesModel" y_mEarly y_mEarly ∈ wA := wA_s (i := 29) rfl rfl
theorem w_205 : Cond.methodLink "BreakPlacesModel" 118 y_mMiddle ∈ wA := wA_3 (i := 99) rfl rfl
theorem w_206 : Cond.instanceMethod y_mMiddle ∈ wA := wA_3 (i := 101) rfl rfl
theorem w_207 : Cond.selects "BreakPlacesModel" y_mMiddle y_mMiddle ∈ wA := wA_s (i := 35) rfl rfl
theorem w_208 : Cond.methodLink "BreakPlacesModel" 122 y_mLate ∈ wA := wA_3 (i := 107) rfl rfl
theorem w_209 : Cond.instanceMethod y_mLate ∈ wA := wA_3 (i := 109) rfl rfl
theorem w_210 : Cond.selects "BreakPlacesModel" y_mLate y_mLate ∈ wA := wA_s (i := 37) rfl rfl
theorem w_211 : Cond.methodLink "BreakPlacesModel" 125 y_mLast ∈ wA := wA_3 (i := 114) rfl rfl
theorem w_212 : Cond.instanceMethod y_mLast ∈ wA := wA_3 (i := 116) rfl rfl
theorem w_213 : Cond.selects "BreakPlacesModel" y_mLast y_mLast ∈ wA := wA_s (i := 38) rfl rfl
theorem w_214 : Cond.methodLink "BreakPlacesModel" 129 y_mIsPosition ∈ wA := wA_3 (i := 51) rfl rfl
theorem w_215 : Cond.instanceMethod y_mIsPosition ∈ wA := wA_3 (i := 53) rfl rfl
theorem w_216 : Cond.selects "BreakPlacesModel" y_mIsPosition y_mIsPosition ∈ wA := wA_s (i := 25) rfl rfl
theorem w_217 : Cond.methodLink "BreakPlacesModel" 132 y_mIsPlace ∈ wA := wA_3 (i := 67) rfl rfl
theorem w_218 : Cond.instanceMethod y_mIsPlace ∈ wA := wA_3 (i := 69) rfl rfl
theorem w_219 : Cond.selects "BreakPlacesModel" y_mIsPlace y_mIsPlace ∈ wA := wA_s (i := 27) rfl rfl
theorem w_220 : Cond.methodLink "BreakPlacesModel" 135 y_mLook ∈ wA := wA_3 (i := 71) rfl rfl
theorem w_221 : Cond.instanceMethod y_mLook ∈ wA := wA_3 (i := 73) rfl rfl
theorem w_222 : Cond.selects "BreakPlacesModel" y_mLook y_mLook ∈ wA := wA_s (i := 28) rfl rfl
theorem w_223 : Cond.methodLink "BreakPlacesModel" 138 y_mIsBlank ∈ wA := wA_3 (i := 147) rfl rfl
theorem w_224 : Cond.static y_mIsBlank ∈ wA := wA_3 (i := 148) rfl rfl
theorem v_P_0 : Cond.laysFinal "BreakPlaces" "BreakPlaces" "text" "[I" ∈ wA := wA_1 (i := 86) rfl rfl
theorem v_P_1 : Cond.laysFinal "BreakPlaces" "BreakPlaces" "classes" "[I" ∈ wA := wA_1 (i := 88) rfl rfl
theorem v_P_2 : Cond.laysFinal "BreakPlaces" "BreakPlaces" "rules" "[I" ∈ wA := wA_1 (i := 90) rfl rfl
theorem v_P_3 : Cond.laysFinal "BreakPlaces" "BreakPlaces" "given" "[I" ∈ wA := wA_1 (i := 92) rfl rfl
theorem v_P_4 : Cond.laysFinal "BreakPlaces" "BreakPlaces" "classRanges" "LBreakPlaces$Ranges;" ∈ wA := wA_1 (i := 94) rfl rfl
theorem v_P_5 : Cond.laysFinal "BreakPlaces" "BreakPlaces" "wide" "LBreakPlaces$Ranges;" ∈ wA := wA_1 (i := 96) rfl rfl
theorem v_P_6 : Cond.laysFinal "BreakPlaces" "BreakPlaces" "pictures" "LBreakPlaces$Ranges;" ∈ wA := wA_1 (i := 98) rfl rfl
theorem v_P_7 : Cond.laysFinal "BreakPlaces" "BreakPlaces" "before" "LBreakPlaces$Before;" ∈ wA := wA_1 (i := 100) rfl rfl
theorem v_P_8 : Cond.lays "BreakPlaces" "BreakPlaces" "length" "I" ∈ wA := wA_1 (i := 102) rfl rfl
theorem v_P_9 : Cond.lays "BreakPlaces" "BreakPlaces" "isLoose" "Z" ∈ wA := wA_1 (i := 104) rfl rfl
theorem v_P_10 : Cond.lays "BreakPlaces" "BreakPlaces" "known" "I" ∈ wA := wA_1 (i := 106) rfl rfl
theorem i_P : ∀ w ∈ u_ws R_P F_P 11, w ∈ wA := gk_all [u_lay R_P F_P 0, u_lay R_P F_P 1, u_lay R_P F_P 2, u_lay R_P F_P 3, u_lay R_P F_P 4, u_lay R_P F_P 5, u_lay R_P F_P 6, u_lay R_P F_P 7, u_lay R_P F_P 8, u_lay R_P F_P 9, u_lay R_P F_P 10] rfl ⟨v_P_0, v_P_1, v_P_2, v_P_3, v_P_4, v_P_5, v_P_6, v_P_7, v_P_8, v_P_9, v_P_10, trivial⟩
theorem v_R_0 : Cond.laysFinal "BreakPlaces$Ranges" "BreakPlaces$Ranges" "firsts" "[I" ∈ wA := wA_1 (i := 30) rfl rfl
theorem v_R_1 : Cond.laysFinal "BreakPlaces$Ranges" "BreakPlaces$Ranges" "lasts" "[I" ∈ wA := wA_1 (i := 32) rfl rfl
theorem v_R_2 : Cond.laysFinal "BreakPlaces$Ranges" "BreakPlaces$Ranges" "values" "[I" ∈ wA := wA_1 (i := 34) rfl rfl
theorem v_R_3 : Cond.lays "BreakPlaces$Ranges" "BreakPlaces$Ranges" "many" "I" ∈ wA := wA_1 (i := 36) rfl rfl
theorem i_R : ∀ w ∈ u_ws R_R F_R 4, w ∈ wA := gk_all [u_lay R_R F_R 0, u_lay R_R F_R 1, u_lay R_R F_R 2, u_lay R_R F_R 3] rfl ⟨v_R_0, v_R_1, v_R_2, v_R_3, trivial⟩
theorem v_B_0 : Cond.lays "BreakPlaces$Before" "BreakPlaces$Before" "last" "I" ∈ wA := wA_1 (i := 62) rfl rfl
theorem v_B_1 : Cond.lays "BreakPlaces$Before" "BreakPlaces$Before" "a" "I" ∈ wA := wA_1 (i := 64) rfl rfl
theorem v_B_2 : Cond.lays "BreakPlaces$Before" "BreakPlaces$Before" "characterA" "I" ∈ wA := wA_1 (i := 66) rfl rfl
theorem v_B_3 : Cond.lays "BreakPlaces$Before" "BreakPlaces$Before" "beforeA" "I" ∈ wA := wA_1 (i := 68) rfl rfl
theorem v_B_4 : Cond.lays "BreakPlaces$Before" "BreakPlaces$Before" "solid" "I" ∈ wA := wA_1 (i := 70) rfl rfl
theorem v_B_5 : Cond.lays "BreakPlaces$Before" "BreakPlaces$Before" "oddRow" "Z" ∈ wA := wA_1 (i := 72) rfl rfl
theorem i_B : ∀ w ∈ u_ws R_B F_B 6, w ∈ wA := gk_all [u_lay R_B F_B 0, u_lay R_B F_B 1, u_lay R_B F_B 2, u_lay R_B F_B 3, u_lay R_B F_B 4, u_lay R_B F_B 5] rfl ⟨v_B_0, v_B_1, v_B_2, v_B_3, v_B_4, v_B_5, trivial⟩
theorem v_M_0 : Cond.lays "BreakPlacesModel" "BreakPlacesModel" "fault" "I" ∈ wA := wA_2 (i := 209) rfl rfl
theorem v_M_1 : Cond.lays "BreakPlacesModel" "BreakPlacesModel" "ranges" "I" ∈ wA := wA_2 (i := 211) rfl rfl
theorem v_M_2 : Cond.laysFinal "BreakPlacesModel" "BreakPlacesModel" "firsts" "[I" ∈ wA := wA_2 (i := 213) rfl rfl
theorem v_M_3 : Cond.laysFinal "BreakPlacesModel" "BreakPlacesModel" "lasts" "[I" ∈ wA := wA_2 (i := 215) rfl rfl
theorem v_M_4 : Cond.laysFinal "BreakPlacesModel" "BreakPlacesModel" "kinds" "[I" ∈ wA := wA_2 (i := 217) rfl rfl
theorem v_M_5 : Cond.laysFinal "BreakPlacesModel" "BreakPlacesModel" "marks" "[I" ∈ wA := wA_2 (i := 219) rfl rfl
theorem v_M_6 : Cond.laysFinal "BreakPlacesModel" "BreakPlacesModel" "markFirsts" "[I" ∈ wA := wA_2 (i := 221) rfl rfl
theorem v_M_7 : Cond.laysFinal "BreakPlacesModel" "BreakPlacesModel" "markLasts" "[I" ∈ wA := wA_2 (i := 223) rfl rfl
theorem v_M_8 : Cond.laysFinal "BreakPlacesModel" "BreakPlacesModel" "markAre" "[Z" ∈ wA := wA_2 (i := 225) rfl rfl
theorem v_M_9 : Cond.lays "BreakPlacesModel" "BreakPlacesModel" "isLoose" "Z" ∈ wA := wA_2 (i := 227) rfl rfl
theorem v_M_10 : Cond.lays "BreakPlacesModel" "BreakPlacesModel" "size" "I" ∈ wA := wA_2 (i := 229) rfl rfl
theorem v_M_11 : Cond.laysFinal "BreakPlacesModel" "BreakPlacesModel" "text" "[I" ∈ wA := wA_2 (i := 231) rfl rfl
theorem v_M_12 : Cond.laysFinal "BreakPlacesModel" "BreakPlacesModel" "fresh" "[I" ∈ wA := wA_2 (i := 233) rfl rfl
theorem v_M_13 : Cond.lays "BreakPlacesModel" "BreakPlacesModel" "held" "I" ∈ wA := wA_2 (i := 235) rfl rfl
theorem i_M : ∀ w ∈ u_ws R_M F_M 14, w ∈ wA := gk_all [u_lay R_M F_M 0, u_lay R_M F_M 1, u_lay R_M F_M 2, u_lay R_M F_M 3, u_lay R_M F_M 4, u_lay R_M F_M 5, u_lay R_M F_M 6, u_lay R_M F_M 7, u_lay R_M F_M 8, u_lay R_M F_M 9, u_lay R_M F_M 10, u_lay R_M F_M 11, u_lay R_M F_M 12, u_lay R_M F_M 13] rfl ⟨v_M_0, v_M_1, v_M_2, v_M_3, v_M_4, v_M_5, v_M_6, v_M_7, v_M_8, v_M_9, v_M_10, v_M_11, v_M_12, v_M_13, trivial⟩
theorem k_bLeavesout : Cond.code y_bLeavesout b_bLeavesout 2 (some .boolean) ∈ wA := wA_1 (i := 154) rfl rfl
theorem e_bLeavesout : y_bLeavesout.cls ≠ "java/lang/invoke/MethodHandle" ∧ y_bLeavesout.cls ≠ "java/lang/invoke/VarHandle" ∧ (parseMethodDescriptor y_bLeavesout.desc).map (fun d => d.parameters.length) = some 1 := by decide +kernel
theorem k_bPass : Cond.code y_bPass b_bPass 4 none ∈ wA := wA_1 (i := 202) rfl rfl
theorem e_bPass : y_bPass.cls ≠ "java/lang/invoke/MethodHandle" ∧ y_bPass.cls ≠ "java/lang/invoke/VarHandle" ∧ (parseMethodDescriptor y_bPass.desc).map (fun d => d.parameters.length) = some 2 := by decide +kernel
theorem k_bStart : Cond.code y_bStart b_bStart 1 none ∈ wA := wA_1 (i := 49) rfl rfl
theorem e_bStart : y_bStart.cls ≠ "java/lang/invoke/MethodHandle" ∧ y_bStart.cls ≠ "java/lang/invoke/VarHandle" ∧ (parseMethodDescriptor y_bStart.desc).map (fun d => d.parameters.length) = some 0 := by decide +kernel
theorem k_breaksAt : Cond.code y_breaksAt b_breaksAt 2 (some .int) ∈ wA := wA_1 (i := 129) rfl rfl
theorem e_breaksAt : y_breaksAt.cls ≠ "java/lang/invoke/MethodHandle" ∧ y_breaksAt.cls ≠ "java/lang/invoke/VarHandle" ∧ (parseMethodDescriptor y_breaksAt.desc).map (fun d => d.parameters.length) = some 1 := by decide +kernel
theorem k_findRule : Cond.code y_findRule b_findRule 5 (some .int) ∈ wA := wA_1 (i := 141) rfl rfl
theorem e_findRule : y_findRule.cls ≠ "java/lang/invoke/MethodHandle" ∧ y_findRule.cls ≠ "java/lang/invoke/VarHandle" ∧ (parseMethodDescriptor y_findRule.desc).map (fun d => d.parameters.length) = some 2 := by decide +kernel
theorem k_forgetRules : Cond.code y_forgetRules b_forgetRules 1 none ∈ wA := wA_1 (i := 116) rfl rfl
theorem e_forgetRules : y_forgetRules.cls ≠ "java/lang/invoke/MethodHandle" ∧ y_forgetRules.cls ≠ "java/lang/invoke/VarHandle" ∧ (parseMethodDescriptor y_forgetRules.desc).map (fun d => d.parameters.length) = some 0 := by decide +kernel
theorem k_isBetween : Cond.code y_isBetween b_isBetween 2 (some .boolean) ∈ wA := wA_1 (i := 208) rfl rfl
theorem e_isBetween : y_isBetween.cls ≠ "java/lang/invoke/MethodHandle" ∧ y_isBetween.cls ≠ "java/lang/invoke/VarHandle" ∧ (parseMethodDescriptor y_isBetween.desc).map (fun d => d.parameters.length) = some 1 := by decide +kernel
theorem k_isCharacter : Cond.code y_isCharacter b_isCharacter 1 (some .boolean) ∈ wA := wA_1 (i := 223) rfl rfl
theorem e_isCharacter : y_isCharacter.cls ≠ "java/lang/invoke/MethodHandle" ∧ y_isCharacter.cls ≠ "java/lang/invoke/VarHandle" ∧ (parseMethodDescriptor y_isCharacter.desc).map (fun d => d.parameters.length) = some 1 := by decide +kernel
theorem k_isIn : Cond.code y_isIn b_isIn 3 (some .boolean) ∈ wA := wA_1 (i := 149) rfl rfl
theorem e_isIn : y_isIn.cls ≠ "java/lang/invoke/MethodHandle" ∧ y_isIn.cls ≠ "java/lang/invoke/VarHandle" ∧ (parseMethodDescriptor y_isIn.desc).map (fun d => d.parameters.length) = some 2 := by decide +kernel
theorem k_isMarked : Cond.code y_isMarked b_isMarked 2 (some .boolean) ∈ wA := wA_1 (i := 194) rfl rfl
theorem e_isMarked : y_isMarked.cls ≠ "java/lang/invoke/MethodHandle" ∧ y_isMarked.cls ≠ "java/lang/invoke/VarHandle" ∧ (parseMethodDescriptor y_isMarked.desc).map (fun d => d.parameters.length) = some 2 := by decide +kernel
theorem k_isPlace : Cond.code y_isPlace b_isPlace 2 (some .boolean) ∈ wA := wA_2 (i := 122) rfl rfl
theorem e_isPlace : y_isPlace.cls ≠ "java/lang/invoke/MethodHandle" ∧ y_isPlace.cls ≠ "java/lang/invoke/VarHandle" ∧ (parseMethodDescriptor y_isPlace.desc).map (fun d => d.parameters.length) = some 1 := by decide +kernel
theorem k_isPosition : Cond.code y_isPosition b_isPosition 2 (some .boolean) ∈ wA := wA_2 (i := 149) rfl rfl
theorem e_isPosition : y_isPosition.cls ≠ "java/lang/invoke/MethodHandle" ∧ y_isPosition.cls ≠ "java/lang/invoke/VarHandle" ∧ (parseMethodDescriptor y_isPosition.desc).map (fun d => d.parameters.length) = some 1 := by decide +kernel
theorem k_isRange : Cond.code y_isRange b_isRange 2 (some .boolean) ∈ wA := wA_1 (i := 220) rfl rfl
theorem e_isRange : y_isRange.cls ≠ "java/lang/invoke/MethodHandle" ∧ y_isRange.cls ≠ "java/lang/invoke/VarHandle" ∧ (parseMethodDescriptor y_isRange.desc).map (fun d => d.parameters.length) = some 2 := by decide +kernel
theorem k_kindAt : Cond.code y_kindAt b_kindAt 2 (some .int) ∈ wA := wA_1 (i := 137) rfl rfl
theorem e_kindAt : y_kindAt.cls ≠ "java/lang/invoke/MethodHandle" ∧ y_kindAt.cls ≠ "java/lang/invoke/VarHandle" ∧ (parseMethodDescriptor y_kindAt.desc).map (fun d => d.parameters.length) = some 1 := by decide +kernel
theorem k_mBase : Cond.code y_mBase b_mBase 3 (some .int) ∈ wA := wA_3 (i := 94) rfl rfl
theorem e_mBase : y_mBase.cls ≠ "java/lang/invoke/MethodHandle" ∧ y_mBase.cls ≠ "java/lang/invoke/VarHandle" ∧ (parseMethodDescriptor y_mBase.desc).map (fun d => d.parameters.length) = some 1 := by decide +kernel
theorem k_mBaseClass : Cond.code y_mBaseClass b_mBaseClass 2 (some .int) ∈ wA := wA_3 (i := 98) rfl rfl
theorem e_mBaseClass : y_mBaseClass.cls ≠ "java/lang/invoke/MethodHandle" ∧ y_mBaseClass.cls ≠ "java/lang/invoke/VarHandle" ∧ (parseMethodDescriptor y_mBaseClass.desc).map (fun d => d.parameters.length) = some 1 := by decide +kernel
theorem k_mBeforeSpaces : Cond.code y_mBeforeSpaces b_mBeforeSpaces 3 (some .int) ∈ wA := wA_3 (i := 106) rfl rfl
theorem e_mBeforeSpaces : y_mBeforeSpaces.cls ≠ "java/lang/invoke/MethodHandle" ∧ y_mBeforeSpaces.cls ≠ "java/lang/invoke/VarHandle" ∧ (parseMethodDescriptor y_mBeforeSpaces.desc).map (fun d => d.parameters.length) = some 1 := by decide +kernel
theorem k_mClassOf : Cond.code y_mClassOf b_mClassOf 5 (some .int) ∈ wA := wA_3 (i := 62) rfl rfl
theorem e_mClassOf : y_mClassOf.cls ≠ "java/lang/invoke/MethodHandle" ∧ y_mClassOf.cls ≠ "java/lang/invoke/VarHandle" ∧ (parseMethodDescriptor y_mClassOf.desc).map (fun d => d.parameters.length) = some 1 := by decide +kernel
theorem k_mEarly : Cond.code y_mEarly b_mEarly 5 (some .int) ∈ wA := wA_3 (i := 78) rfl rfl
theorem e_mEarly : y_mEarly.cls ≠ "java/lang/invoke/MethodHandle" ∧ y_mEarly.cls ≠ "java/lang/invoke/VarHandle" ∧ (parseMethodDescriptor y_mEarly.desc).map (fun d => d.parameters.length) = some 1 := by decide +kernel
theorem k_mFlags : Cond.code y_mFlags b_mFlags 4 (some .int) ∈ wA := wA_3 (i := 134) rfl rfl
theorem e_mFlags : y_mFlags.cls ≠ "java/lang/invoke/MethodHandle" ∧ y_mFlags.cls ≠ "java/lang/invoke/VarHandle" ∧ (parseMethodDescriptor y_mFlags.desc).map (fun d => d.parameters.length) = some 1 := by decide +kernel
theorem k_mGiven : Cond.code y_mGiven b_mGiven 3 (some .int) ∈ wA := wA_3 (i := 34) rfl rfl
theorem e_mGiven : y_mGiven.cls ≠ "java/lang/invoke/MethodHandle" ∧ y_mGiven.cls ≠ "java/lang/invoke/VarHandle" ∧ (parseMethodDescriptor y_mGiven.desc).map (fun d => d.parameters.length) = some 1 := by decide +kernel
theorem k_mIsBlank : Cond.code y_mIsBlank b_mIsBlank 1 (some .boolean) ∈ wA := wA_3 (i := 149) rfl rfl
theorem e_mIsBlank : y_mIsBlank.cls ≠ "java/lang/invoke/MethodHandle" ∧ y_mIsBlank.cls ≠ "java/lang/invoke/VarHandle" ∧ (parseMethodDescriptor y_mIsBlank.desc).map (fun d => d.parameters.length) = some 1 := by decide +kernel
theorem k_mIsChar : Cond.code y_mIsChar b_mIsChar 1 (some .boolean) ∈ wA := wA_3 (i := 9) rfl rfl
theorem e_mIsChar : y_mIsChar.cls ≠ "java/lang/invoke/MethodHandle" ∧ y_mIsChar.cls ≠ "java/lang/invoke/VarHandle" ∧ (parseMethodDescriptor y_mIsChar.desc).map (fun d => d.parameters.length) = some 1 := by decide +kernel
theorem k_mIsHangul : Cond.code y_mIsHangul b_mIsHangul 1 (some .boolean) ∈ wA := wA_3 (i := 126) rfl rfl
theorem e_mIsHangul : y_mIsHangul.cls ≠ "java/lang/invoke/MethodHandle" ∧ y_mIsHangul.cls ≠ "java/lang/invoke/VarHandle" ∧ (parseMethodDescriptor y_mIsHangul.desc).map (fun d => d.parameters.length) = some 1 := by decide +kernel
theorem k_mIsLeftOut : Cond.code y_mIsLeftOut b_mIsLeftOut 3 (some .boolean) ∈ wA := wA_3 (i := 86) rfl rfl
theorem e_mIsLeftOut : y_mIsLeftOut.cls ≠ "java/lang/invoke/MethodHandle" ∧ y_mIsLeftOut.cls ≠ "java/lang/invoke/VarHandle" ∧ (parseMethodDescriptor y_mIsLeftOut.desc).map (fun d => d.parameters.length) = some 1 := by decide +kernel
theorem k_mIsLetter : Cond.code y_mIsLetter b_mIsLetter 1 (some .boolean) ∈ wA := wA_3 (i := 113) rfl rfl
theorem e_mIsLetter : y_mIsLetter.cls ≠ "java/lang/invoke/MethodHandle" ∧ y_mIsLetter.cls ≠ "java/lang/invoke/VarHandle" ∧ (parseMethodDescriptor y_mIsLetter.desc).map (fun d => d.parameters.length) = some 1 := by decide +kernel
theorem k_mIsMark : Cond.code y_mIsMark b_mIsMark 3 (some .boolean) ∈ wA := wA_3 (i := 90) rfl rfl
theorem e_mIsMark : y_mIsMark.cls ≠ "java/lang/invoke/MethodHandle" ∧ y_mIsMark.cls ≠ "java/lang/invoke/VarHandle" ∧ (parseMethodDescriptor y_mIsMark.desc).map (fun d => d.parameters.length) = some 1 := by decide +kernel
theorem k_mIsMarked : Cond.code y_mIsMarked b_mIsMarked 6 (some .boolean) ∈ wA := wA_3 (i := 130) rfl rfl
theorem e_mIsMarked : y_mIsMarked.cls ≠ "java/lang/invoke/MethodHandle" ∧ y_mIsMarked.cls ≠ "java/lang/invoke/VarHandle" ∧ (parseMethodDescriptor y_mIsMarked.desc).map (fun d => d.parameters.length) = some 2 := by decide +kernel
theorem k_mIsNumeric : Cond.code y_mIsNumeric b_mIsNumeric 4 (some .boolean) ∈ wA := wA_3 (i := 120) rfl rfl
theorem e_mIsNumeric : y_mIsNumeric.cls ≠ "java/lang/invoke/MethodHandle" ∧ y_mIsNumeric.cls ≠ "java/lang/invoke/VarHandle" ∧ (parseMethodDescriptor y_mIsNumeric.desc).map (fun d => d.parameters.length) = some 2 := by decide +kernel
theorem k_mIsPlace : Cond.code y_mIsPlace b_mIsPlace 2 (some .boolean) ∈ wA := wA_3 (i := 70) rfl rfl
theorem e_mIsPlace : y_mIsPlace.cls ≠ "java/lang/invoke/MethodHandle" ∧ y_mIsPlace.cls ≠ "java/lang/invoke/VarHandle" ∧ (parseMethodDescriptor y_mIsPlace.desc).map (fun d => d.parameters.length) = some 1 := by decide +kernel
theorem k_mIsPosition : Cond.code y_mIsPosition b_mIsPosition 2 (some .boolean) ∈ wA := wA_3 (i := 54) rfl rfl
theorem e_mIsPosition : y_mIsPosition.cls ≠ "java/lang/invoke/MethodHandle" ∧ y_mIsPosition.cls ≠ "java/lang/invoke/VarHandle" ∧ (parseMethodDescriptor y_mIsPosition.desc).map (fun d => d.parameters.length) = some 1 := by decide +kernel
theorem k_mIsSound : Cond.code y_mIsSound b_mIsSound 4 (some .boolean) ∈ wA := wA_3 (i := 38) rfl rfl
theorem e_mIsSound : y_mIsSound.cls ≠ "java/lang/invoke/MethodHandle" ∧ y_mIsSound.cls ≠ "java/lang/invoke/VarHandle" ∧ (parseMethodDescriptor y_mIsSound.desc).map (fun d => d.parameters.length) = some 1 := by decide +kernel
theorem k_mIsSyllable : Cond.code y_mIsSyllable b_mIsSyllable 4 (some .boolean) ∈ wA := wA_3 (i := 123) rfl rfl
theorem e_mIsSyllable : y_mIsSyllable.cls ≠ "java/lang/invoke/MethodHandle" ∧ y_mIsSyllable.cls ≠ "java/lang/invoke/VarHandle" ∧ (parseMethodDescriptor y_mIsSyllable.desc).map (fun d => d.parameters.length) = some 2 := by decide +kernel
theorem k_mKeep : Cond.code y_mKeep b_mKeep 6 none ∈ wA := wA_3 (i := 30) rfl rfl
theorem e_mKeep : y_mKeep.cls ≠ "java/lang/invoke/MethodHandle" ∧ y_mKeep.cls ≠ "java/lang/invoke/VarHandle" ∧ (parseMethodDescriptor y_mKeep.desc).map (fun d => d.parameters.length) = some 5 := by decide +kernel
theorem k_mLast : Cond.code y_mLast b_mLast 7 (some .int) ∈ wA := wA_3 (i := 117) rfl rfl
theorem e_mLast : y_mLast.cls ≠ "java/lang/invoke/MethodHandle" ∧ y_mLast.cls ≠ "java/lang/invoke/VarHandle" ∧ (parseMethodDescriptor y_mLast.desc).map (fun d => d.parameters.length) = some 4 := by decide +kernel
theorem k_mLate : Cond.code y_mLate b_mLate 7 (some .int) ∈ wA := wA_3 (i := 110) rfl rfl
theorem e_mLate : y_mLate.cls ≠ "java/lang/invoke/MethodHandle" ∧ y_mLate.cls ≠ "java/lang/invoke/VarHandle" ∧ (parseMethodDescriptor y_mLate.desc).map (fun d => d.parameters.length) = some 3 := by decide +kernel
theorem k_mLook : Cond.code y_mLook b_mLook 6 (some .int) ∈ wA := wA_3 (i := 74) rfl rfl
theorem e_mLook : y_mLook.cls ≠ "java/lang/invoke/MethodHandle" ∧ y_mLook.cls ≠ "java/lang/invoke/VarHandle" ∧ (parseMethodDescriptor y_mLook.desc).map (fun d => d.parameters.length) = some 1 := by decide +kernel
theorem k_mMiddle : Cond.code y_mMiddle b_mMiddle 5 (some .int) ∈ wA := wA_3 (i := 102) rfl rfl
theorem e_mMiddle : y_mMiddle.cls ≠ "java/lang/invoke/MethodHandle" ∧ y_mMiddle.cls ≠ "java/lang/invoke/VarHandle" ∧ (parseMethodDescriptor y_mMiddle.desc).map (fun d => d.parameters.length) = some 3 := by decide +kernel
theorem k_mRefused : Cond.code y_mRefused b_mRefused 2 (some .boolean) ∈ wA := wA_3 (i := 14) rfl rfl
theorem e_mRefused : y_mRefused.cls ≠ "java/lang/invoke/MethodHandle" ∧ y_mRefused.cls ≠ "java/lang/invoke/VarHandle" ∧ (parseMethodDescriptor y_mRefused.desc).map (fun d => d.parameters.length) = some 1 := by decide +kernel
theorem k_mTell : Cond.code y_mTell b_mTell 3 (some .int) ∈ wA := wA_3 (i := 82) rfl rfl
theorem e_mTell : y_mTell.cls ≠ "java/lang/invoke/MethodHandle" ∧ y_mTell.cls ≠ "java/lang/invoke/VarHandle" ∧ (parseMethodDescriptor y_mTell.desc).map (fun d => d.parameters.length) = some 2 := by decide +kernel
theorem k_rIsFull : Cond.code y_rIsFull b_rIsFull 1 (some .boolean) ∈ wA := wA_2 (i := 56) rfl rfl
theorem e_rIsFull : y_rIsFull.cls ≠ "java/lang/invoke/MethodHandle" ∧ y_rIsFull.cls ≠ "java/lang/invoke/VarHandle" ∧ (parseMethodDescriptor y_rIsFull.desc).map (fun d => d.parameters.length) = some 0 := by decide +kernel
theorem k_rTell : Cond.code y_rTell b_rTell 4 none ∈ wA := wA_2 (i := 76) rfl rfl
theorem e_rTell : y_rTell.cls ≠ "java/lang/invoke/MethodHandle" ∧ y_rTell.cls ≠ "java/lang/invoke/VarHandle" ∧ (parseMethodDescriptor y_rTell.desc).map (fun d => d.parameters.length) = some 3 := by decide +kernel
theorem k_rValueOf : Cond.code y_rValueOf b_rValueOf 4 (some .int) ∈ wA := wA_1 (i := 198) rfl rfl
theorem e_rValueOf : y_rValueOf.cls ≠ "java/lang/invoke/MethodHandle" ∧ y_rValueOf.cls ≠ "java/lang/invoke/VarHandle" ∧ (parseMethodDescriptor y_rValueOf.desc).map (fun d => d.parameters.length) = some 2 := by decide +kernel
theorem k_ruleAcrossSpaces : Cond.code y_ruleAcrossSpaces b_ruleAcrossSpaces 2 (some .int) ∈ wA := wA_1 (i := 169) rfl rfl
theorem e_ruleAcrossSpaces : y_ruleAcrossSpaces.cls ≠ "java/lang/invoke/MethodHandle" ∧ y_ruleAcrossSpaces.cls ≠ "java/lang/invoke/VarHandle" ∧ (parseMethodDescriptor y_ruleAcrossSpaces.desc).map (fun d => d.parameters.length) = some 2 := by decide +kernel
theorem k_ruleAt : Cond.code y_ruleAt b_ruleAt 4 (some .int) ∈ wA := wA_1 (i := 133) rfl rfl
theorem e_ruleAt : y_ruleAt.cls ≠ "java/lang/invoke/MethodHandle" ∧ y_ruleAt.cls ≠ "java/lang/invoke/VarHandle" ∧ (parseMethodDescriptor y_ruleAt.desc).map (fun d => d.parameters.length) = some 1 := by decide +kernel
theorem k_ruleOfGlue : Cond.code y_ruleOfGlue b_ruleOfGlue 2 (some .int) ∈ wA := wA_1 (i := 164) rfl rfl
theorem e_ruleOfGlue : y_ruleOfGlue.cls ≠ "java/lang/invoke/MethodHandle" ∧ y_ruleOfGlue.cls ≠ "java/lang/invoke/VarHandle" ∧ (parseMethodDescriptor y_ruleOfGlue.desc).map (fun d => d.parameters.length) = some 2 := by decide +kernel
theorem k_ruleOfMarks : Cond.code y_ruleOfMarks b_ruleOfMarks 4 (some .int) ∈ wA := wA_1 (i := 190) rfl rfl
theorem e_ruleOfMarks : y_ruleOfMarks.cls ≠ "java/lang/invoke/MethodHandle" ∧ y_ruleOfMarks.cls ≠ "java/lang/invoke/VarHandle" ∧ (parseMethodDescriptor y_ruleOfMarks.desc).map (fun d => d.parameters.length) = some 3 := by decide +kernel
theorem k_ruleOfNumbers : Cond.code y_ruleOfNumbers b_ruleOfNumbers 2 (some .int) ∈ wA := wA_1 (i := 177) rfl rfl
theorem e_ruleOfNumbers : y_ruleOfNumbers.cls ≠ "java/lang/invoke/MethodHandle" ∧ y_ruleOfNumbers.cls ≠ "java/lang/invoke/VarHandle" ∧ (parseMethodDescriptor y_ruleOfNumbers.desc).map (fun d => d.parameters.length) = some 2 := by decide +kernel
theorem k_ruleOfSigns : Cond.code y_ruleOfSigns b_ruleOfSigns 3 (some .int) ∈ wA := wA_1 (i := 174) rfl rfl
theorem e_ruleOfSigns : y_ruleOfSigns.cls ≠ "java/lang/invoke/MethodHandle" ∧ y_ruleOfSigns.cls ≠ "java/lang/invoke/VarHandle" ∧ (parseMethodDescriptor y_ruleOfSigns.desc).map (fun d => d.parameters.length) = some 2 := by decide +kernel
theorem k_ruleOfSpaces : Cond.code y_ruleOfSpaces b_ruleOfSpaces 2 (some .int) ∈ wA := wA_1 (i := 145) rfl rfl
theorem e_ruleOfSpaces : y_ruleOfSpaces.cls ≠ "java/lang/invoke/MethodHandle" ∧ y_ruleOfSpaces.cls ≠ "java/lang/invoke/VarHandle" ∧ (parseMethodDescriptor y_ruleOfSpaces.desc).map (fun d => d.parameters.length) = some 1 := by decide +kernel
theorem k_ruleOfWords : Cond.code y_ruleOfWords b_ruleOfWords 2 (some .int) ∈ wA := wA_1 (i := 185) rfl rfl
theorem e_ruleOfWords : y_ruleOfWords.cls ≠ "java/lang/invoke/MethodHandle" ∧ y_ruleOfWords.cls ≠ "java/lang/invoke/VarHandle" ∧ (parseMethodDescriptor y_ruleOfWords.desc).map (fun d => d.parameters.length) = some 2 := by decide +kernel
theorem k_standsFor : Cond.code y_standsFor b_standsFor 1 (some .int) ∈ wA := wA_1 (i := 160) rfl rfl
theorem e_standsFor : y_standsFor.cls ≠ "java/lang/invoke/MethodHandle" ∧ y_standsFor.cls ≠ "java/lang/invoke/VarHandle" ∧ (parseMethodDescriptor y_standsFor.desc).map (fun d => d.parameters.length) = some 1 := by decide +kernel
