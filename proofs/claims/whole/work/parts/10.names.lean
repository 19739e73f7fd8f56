abbrev R_P : String := "BreakPlaces"
def F_P : u_T := fun k => match k with
  | 0 => ("BreakPlaces", "text", "[I", true)
  | 1 => ("BreakPlaces", "classes", "[I", true)
  | 2 => ("BreakPlaces", "rules", "[I", true)
  | 3 => ("BreakPlaces", "given", "[I", true)
  | 4 => ("BreakPlaces", "classRanges", "LBreakPlaces$Ranges;", true)
  | 5 => ("BreakPlaces", "wide", "LBreakPlaces$Ranges;", true)
  | 6 => ("BreakPlaces", "pictures", "LBreakPlaces$Ranges;", true)
  | 7 => ("BreakPlaces", "before", "LBreakPlaces$Before;", true)
  | 8 => ("BreakPlaces", "length", "I", false)
  | 9 => ("BreakPlaces", "isLoose", "Z", false)
  | _ => ("BreakPlaces", "known", "I", false)
def t_P : Nat → FieldType := fun k => match k with
  | 0 => .array .int
  | 1 => .array .int
  | 2 => .array .int
  | 3 => .array .int
  | 4 => .object "BreakPlaces$Ranges"
  | 5 => .object "BreakPlaces$Ranges"
  | 6 => .object "BreakPlaces$Ranges"
  | 7 => .object "BreakPlaces$Before"
  | 8 => .int
  | 9 => .boolean
  | _ => .int
theorem n_P : ∀ a, a < 11 → ∀ b, b < 11 → a ≠ b → (F_P a).2.1 ≠ (F_P b).2.1 := by decide +kernel
theorem t_P_ok : ∀ k, k < 11 → parseFieldDescriptor (F_P k).2.2.1 = some (t_P k) := by decide +kernel
abbrev R_R : String := "BreakPlaces$Ranges"
def F_R : u_T := fun k => match k with
  | 0 => ("BreakPlaces$Ranges", "firsts", "[I", true)
  | 1 => ("BreakPlaces$Ranges", "lasts", "[I", true)
  | 2 => ("BreakPlaces$Ranges", "values", "[I", true)
  | _ => ("BreakPlaces$Ranges", "many", "I", false)
def t_R : Nat → FieldType := fun k => match k with
  | 0 => .array .int
  | 1 => .array .int
  | 2 => .array .int
  | _ => .int
theorem n_R : ∀ a, a < 4 → ∀ b, b < 4 → a ≠ b → (F_R a).2.1 ≠ (F_R b).2.1 := by decide +kernel
theorem t_R_ok : ∀ k, k < 4 → parseFieldDescriptor (F_R k).2.2.1 = some (t_R k) := by decide +kernel
abbrev R_B : String := "BreakPlaces$Before"
def F_B : u_T := fun k => match k with
  | 0 => ("BreakPlaces$Before", "last", "I", false)
  | 1 => ("BreakPlaces$Before", "a", "I", false)
  | 2 => ("BreakPlaces$Before", "characterA", "I", false)
  | 3 => ("BreakPlaces$Before", "beforeA", "I", false)
  | 4 => ("BreakPlaces$Before", "solid", "I", false)
  | _ => ("BreakPlaces$Before", "oddRow", "Z", false)
def t_B : Nat → FieldType := fun k => match k with
  | 0 => .int
  | 1 => .int
  | 2 => .int
  | 3 => .int
  | 4 => .int
  | _ => .boolean
theorem n_B : ∀ a, a < 6 → ∀ b, b < 6 → a ≠ b → (F_B a).2.1 ≠ (F_B b).2.1 := by decide +kernel
theorem t_B_ok : ∀ k, k < 6 → parseFieldDescriptor (F_B k).2.2.1 = some (t_B k) := by decide +kernel
abbrev vwCl : List vw_C := [(R_P, F_P, 11), (R_R, F_R, 4), (R_B, F_B, 6)]
abbrev b_isIn : ByteArray := prog_1_method_36_code
def y_isIn : MethodName := ⟨"BreakPlaces", "isIn", "(IJ)Z"⟩
abbrev b_isCharacter : ByteArray := prog_1_method_15_code
def y_isCharacter : MethodName := ⟨"BreakPlaces", "isCharacter", "(I)Z"⟩
abbrev b_isRange : ByteArray := prog_1_method_16_code
def y_isRange : MethodName := ⟨"BreakPlaces", "isRange", "(II)Z"⟩
abbrev b_standsFor : ByteArray := prog_1_method_37_code
def y_standsFor : MethodName := ⟨"BreakPlaces", "standsFor", "(I)I"⟩
abbrev b_ruleOfGlue : ByteArray := prog_1_method_29_code
def y_ruleOfGlue : MethodName := ⟨"BreakPlaces", "ruleOfGlue", "(II)I"⟩
abbrev b_ruleAcrossSpaces : ByteArray := prog_1_method_30_code
def y_ruleAcrossSpaces : MethodName := ⟨"BreakPlaces", "ruleAcrossSpaces", "(II)I"⟩
abbrev b_ruleOfNumbers : ByteArray := prog_1_method_32_code
def y_ruleOfNumbers : MethodName := ⟨"BreakPlaces", "ruleOfNumbers", "(II)I"⟩
abbrev b_ruleOfWords : ByteArray := prog_1_method_33_code
def y_ruleOfWords : MethodName := ⟨"BreakPlaces", "ruleOfWords", "(II)I"⟩
