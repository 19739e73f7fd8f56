-- the tables' words that stay true as tables grow warm: one list for all methods
def wA : List Cond := lw_tbl.filter goodWord
theorem wA_of {w : Cond} (h : w ∈ lw_tbl) (g : goodWord w = true) : w ∈ wA := List.mem_filter.mpr ⟨h, g⟩
theorem wA_1 {w : Cond} {i : Nat} (h : tables_1_1[i]? = some w) (g : goodWord w = true) : w ∈ wA := wA_of (List.mem_append_right _ (List.mem_append_left _ (List.mem_of_getElem? h))) g
theorem wA_2 {w : Cond} {i : Nat} (h : tables_1_2[i]? = some w) (g : goodWord w = true) : w ∈ wA := wA_of (List.mem_append_right _ (List.mem_append_right _ (List.mem_append_left _ (List.mem_of_getElem? h)))) g
theorem wA_3 {w : Cond} {i : Nat} (h : tables_1_3[i]? = some w) (g : goodWord w = true) : w ∈ wA := wA_of (List.mem_append_right _ (List.mem_append_right _ (List.mem_append_right _ (List.mem_of_getElem? h)))) g
theorem wA_s {w : Cond} {i : Nat} (h : (k2_sels lw_privs)[i]? = some w) (g : goodWord w = true) : w ∈ wA := wA_of (List.mem_append_left _ (List.mem_of_getElem? h)) g
def gk_and (P : Cond → Prop) : List Cond → Prop
  | [] => True
  | w :: r => P w ∧ gk_and P r
theorem gk_all1 {P : Cond → Prop} : ∀ (l : List Cond), gk_and P l → ∀ w ∈ l, P w
  | [], _, _, h => absurd h List.not_mem_nil
  | a :: r, hp, w, h => (List.mem_cons.mp h).elim (fun e => e ▸ hp.1) (fun h => gk_all1 r hp.2 w h)
theorem gk_all {ws : List Cond} (l : List Cond) (e : ws = l) (h : gk_and (fun w => w ∈ wA) l) : ∀ w ∈ ws, w ∈ wA := e ▸ gk_all1 l h
theorem gk_good {ws : List Cond} (h : ∀ w ∈ ws, w ∈ wA) : GoodIn wA ws := fun w hw => ⟨h w hw, good_of_word (List.mem_filter.mp (h w hw)).2⟩
theorem gk_cons {c : Cond} (h : c ∈ wA) : ∀ w ∈ c :: wA, w ∈ wA := fun w hw => (List.mem_cons.mp hw).elim (fun e => e ▸ h) id
section
variable {R : Room} {s : State} {args : Array Value} {own host C : String} {index maxL n mc ms : Nat} {y : MethodName} {bytes : ByteArray} {ret : Option FieldType} {rm : Room}
theorem gk_cwS (hts : ∀ w ∈ wA, w.before args s = true) (h1 : Cond.methodLink own index y ∈ wA) (h2 : Cond.static y ∈ wA) (h3 : Cond.initialized own ∈ wA) (h4 : Cond.code y bytes maxL ret ∈ wA) (hc : y.cls = own)
    (hd : y.cls ≠ "java/lang/invoke/MethodHandle" ∧ y.cls ≠ "java/lang/invoke/VarHandle" ∧ (parseMethodDescriptor y.desc).map (fun d => d.parameters.length) = some n) (hrc : rm.cells = mc) (hrs : rm.slots = ms) (hR : rm.frames + 1 ≤ R.frames ∧ 8 + (maxL + 11) + rm.locals ≤ R.locals) :
    CallB R s args own index y bytes maxL ret (.code y bytes maxL ret :: wA) rm mc ms n ∧ (Cond.static y).before args s = true :=
  cwS n hts (gk_good (fun w hw => (List.mem_append.mp hw).elim (gk_all1 [_, _, _] ⟨h1, h2, h3, trivial⟩ w) (gk_cons h4 w))) rfl hrc hrs ⟨hc, hd⟩ hR
theorem gk_cwV (hts : ∀ w ∈ wA, w.before args s = true) (h1 : Cond.methodLink own index y ∈ wA) (h2 : Cond.instanceMethod y ∈ wA) (h5 : Cond.selects C y y ∈ wA) (h3 : Cond.initialized C ∈ wA) (h4 : Cond.code y bytes maxL ret ∈ wA) (hc : y.cls = C)
    (hd : y.cls ≠ "java/lang/invoke/MethodHandle" ∧ y.cls ≠ "java/lang/invoke/VarHandle" ∧ (parseMethodDescriptor y.desc).map (fun d => d.parameters.length) = some n) (hrc : rm.cells = mc) (hrs : rm.slots = ms) (hR : rm.frames + 1 ≤ R.frames ∧ 8 + (maxL + 11) + rm.locals ≤ R.locals) :
    CallW R s args own C index y bytes maxL ret (.code y bytes maxL ret :: wA) rm mc ms n :=
  cwV n hts (gk_good (fun w hw => (List.mem_append.mp hw).elim (gk_all1 [_, _, _, _] ⟨h1, h2, h5, h3, trivial⟩ w) (gk_cons h4 w))) rfl hrc hrs ⟨hc, hd⟩ hR
theorem gk_cwSN (hts : ∀ w ∈ wA, w.before args s = true) (h1 : Cond.methodLinkNest own index y host ∈ wA) (h2 : Cond.static y ∈ wA) (h3 : Cond.initialized y.cls ∈ wA) (h4 : Cond.code y bytes maxL ret ∈ wA)
    (hd : y.cls ≠ "java/lang/invoke/MethodHandle" ∧ y.cls ≠ "java/lang/invoke/VarHandle" ∧ (parseMethodDescriptor y.desc).map (fun d => d.parameters.length) = some n) (hrc : rm.cells = mc) (hrs : rm.slots = ms) (hR : rm.frames + 1 ≤ R.frames ∧ 8 + (maxL + 11) + rm.locals ≤ R.locals) :
    va_CN R s args own index y host bytes maxL ret (.code y bytes maxL ret :: wA) rm mc ms n ∧ (Cond.static y).before args s = true ∧ True :=
  ⟨va_cnB n hts (gk_good (gk_cons h4)) rfl hrc hrs (va_Nw.of rfl (hts _ h1)) (hts _ h3) hd hR, hts _ h2, trivial⟩
theorem gk_cwVN (hts : ∀ w ∈ wA, w.before args s = true) (h1 : Cond.methodLinkNest own index y host ∈ wA) (h2 : Cond.instanceMethod y ∈ wA) (h5 : Cond.selects C y y ∈ wA) (h3 : Cond.initialized y.cls ∈ wA) (h4 : Cond.code y bytes maxL ret ∈ wA)
    (hd : y.cls ≠ "java/lang/invoke/MethodHandle" ∧ y.cls ≠ "java/lang/invoke/VarHandle" ∧ (parseMethodDescriptor y.desc).map (fun d => d.parameters.length) = some n) (hrc : rm.cells = mc) (hrs : rm.slots = ms) (hR : rm.frames + 1 ≤ R.frames ∧ 8 + (maxL + 11) + rm.locals ≤ R.locals) :
    va_CN R s args own index y host bytes maxL ret (.code y bytes maxL ret :: wA) rm mc ms n ∧ (Cond.instanceMethod y).before args s = true ∧ (Cond.selects C y y).before args s = true :=
  ⟨va_cnB n hts (gk_good (gk_cons h4)) rfl hrc hrs (va_Nw.of rfl (hts _ h1)) (hts _ h3) hd hR, hts _ h2, hts _ h5⟩
end
theorem w_0 : Cond.constant "BreakPlaces" 134 1114111 ∈ wA := wA_1 (i := 224) rfl rfl
theorem w_1 : Cond.methodLink "BreakPlaces" 135 y_isCharacter ∈ wA := wA_1 (i := 221) rfl rfl
theorem w_2 : Cond.static y_isCharacter ∈ wA := wA_1 (i := 222) rfl rfl
theorem w_3 : Cond.initialized "BreakPlaces" ∈ wA := wA_1 (i := 1) rfl rfl
theorem w_4 : Cond.constantLong "BreakPlaces" 235 384 ∈ wA := wA_1 (i := 161) rfl rfl
theorem w_5 : Cond.methodLink "BreakPlaces" 130 y_isIn ∈ wA := wA_1 (i := 147) rfl rfl
theorem w_6 : Cond.static y_isIn ∈ wA := wA_1 (i := 148) rfl rfl
theorem w_7 : Cond.constantLong "BreakPlaces" 204 71532544 ∈ wA := wA_1 (i := 166) rfl rfl
theorem w_8 : Cond.constantLong "BreakPlaces" 202 10240 ∈ wA := wA_1 (i := 165) rfl rfl
theorem w_9 : Cond.constantLong "BreakPlaces" 206 98304 ∈ wA := wA_1 (i := 170) rfl rfl
theorem w_10 : Cond.constantLong "BreakPlaces" 211 402653184 ∈ wA := wA_1 (i := 178) rfl rfl
theorem w_11 : Cond.constantLong "BreakPlaces" 213 3758096384 ∈ wA := wA_1 (i := 179) rfl rfl
theorem w_12 : Cond.constantLong "BreakPlaces" 215 50331648 ∈ wA := wA_1 (i := 180) rfl rfl
theorem w_13 : Cond.constantLong "BreakPlaces" 217 8486912 ∈ wA := wA_1 (i := 181) rfl rfl
theorem w_14 : Cond.constantLong "BreakPlaces" 219 79699968 ∈ wA := wA_1 (i := 182) rfl rfl
theorem w_15 : Cond.constantLong "BreakPlaces" 221 133143986176 ∈ wA := wA_1 (i := 186) rfl rfl
theorem v_P_0 : Cond.laysFinal "BreakPlaces" "BreakPlaces" "text" "[I" ∈ wA := wA_1 (i := 86) rfl rfl
theorem v_P_1 : Cond.laysFinal "BreakPlaces" "BreakPlaces" "classes" "[I" ∈ wA := wA_1 (i := 88) rfl rfl
theorem v_P_2 : Cond.laysFinal "BreakPlaces" "BreakPlaces" "rules" "[I" ∈ wA := wA_1 (i := 90) rfl rfl
theorem v_P_3 : Cond.laysFinal "BreakPlaces" "BreakPlaces" "given" "[I" ∈ wA := wA_1 (i := 92) rfl rfl
theorem v_P_4 : Cond.laysFinal "BreakPlaces" "BreakPlaces" "classRanges" "LBreakPlaces$Ranges;" ∈ wA := wA_1 (i := 94) rfl rfl
theorem v_P_5 : Cond.laysFinal "BreakPlaces" "BreakPlaces" "wide" "LBreakPlaces$Ranges;" ∈ wA := wA_1 (i := 96) rfl rfl
theorem v_P_6 : Cond.laysFinal "BreakPlaces" "BreakPlaces" "pictures" "LBreakPlaces$Ranges;" ∈ wA := wA_1 (i := 98) rfl rfl
theorem v_P_7 : Cond.laysFinal "BreakPlaces" "BreakPlaces" "before" "LBreakPlaces$Before;" ∈ wA := wA_1 (i := 100) rfl rfl
theorem v_P_8 : Cond.lays "BreakPlaces" "BreakPlaces" "length" "I" ∈ wA := wA_1 (i := 102) rfl rfl
theorem v_P_9 : Cond.lays "BreakPlaces" "BreakPlaces" "isLoose" "Z" ∈ wA := wA_1 (i := 104) rfl rfl
theorem v_P_10 : Cond.lays "BreakPlaces" "BreakPlaces" "known" "I" ∈ wA := wA_1 (i := 106) rfl rfl
theorem i_P : ∀ w ∈ u_ws R_P F_P 11, w ∈ wA := gk_all [u_lay R_P F_P 0, u_lay R_P F_P 1, u_lay R_P F_P 2, u_lay R_P F_P 3, u_lay R_P F_P 4, u_lay R_P F_P 5, u_lay R_P F_P 6, u_lay R_P F_P 7, u_lay R_P F_P 8, u_lay R_P F_P 9, u_lay R_P F_P 10] rfl ⟨v_P_0, v_P_1, v_P_2, v_P_3, v_P_4, v_P_5, v_P_6, v_P_7, v_P_8, v_P_9, v_P_10, trivial⟩
theorem v_R_0 : Cond.laysFinal "BreakPlaces$Ranges" "BreakPlaces$Ranges" "firsts" "[I" ∈ wA := wA_1 (i := 30) rfl rfl
theorem v_R_1 : Cond.laysFinal "BreakPlaces$Ranges" "BreakPlaces$Ranges" "lasts" "[I" ∈ wA := wA_1 (i := 32) rfl rfl
theorem v_R_2 : Cond.laysFinal "BreakPlaces$Ranges" "BreakPlaces$Ranges" "values" "[I" ∈ wA := wA_1 (i := 34) rfl rfl
theorem v_R_3 : Cond.lays "BreakPlaces$Ranges" "BreakPlaces$Ranges" "many" "I" ∈ wA := wA_1 (i := 36) rfl rfl
theorem i_R : ∀ w ∈ u_ws R_R F_R 4, w ∈ wA := gk_all [u_lay R_R F_R 0, u_lay R_R F_R 1, u_lay R_R F_R 2, u_lay R_R F_R 3] rfl ⟨v_R_0, v_R_1, v_R_2, v_R_3, trivial⟩
theorem v_B_0 : Cond.lays "BreakPlaces$Before" "BreakPlaces$Before" "last" "I" ∈ wA := wA_1 (i := 62) rfl rfl
theorem v_B_1 : Cond.lays "BreakPlaces$Before" "BreakPlaces$Before" "a" "I" ∈ wA := wA_1 (i := 64) rfl rfl
theorem v_B_2 : Cond.lays "BreakPlaces$Before" "BreakPlaces$Before" "characterA" "I" ∈ wA := wA_1 (i := 66) rfl rfl
theorem v_B_3 : Cond.lays "BreakPlaces$Before" "BreakPlaces$Before" "beforeA" "I" ∈ wA := wA_1 (i := 68) rfl rfl
theorem v_B_4 : Cond.lays "BreakPlaces$Before" "BreakPlaces$Before" "solid" "I" ∈ wA := wA_1 (i := 70) rfl rfl
theorem v_B_5 : Cond.lays "BreakPlaces$Before" "BreakPlaces$Before" "oddRow" "Z" ∈ wA := wA_1 (i := 72) rfl rfl
theorem i_B : ∀ w ∈ u_ws R_B F_B 6, w ∈ wA := gk_all [u_lay R_B F_B 0, u_lay R_B F_B 1, u_lay R_B F_B 2, u_lay R_B F_B 3, u_lay R_B F_B 4, u_lay R_B F_B 5] rfl ⟨v_B_0, v_B_1, v_B_2, v_B_3, v_B_4, v_B_5, trivial⟩
theorem k_isCharacter : Cond.code y_isCharacter b_isCharacter 1 (some .boolean) ∈ wA := wA_1 (i := 223) rfl rfl
theorem e_isCharacter : y_isCharacter.cls ≠ "java/lang/invoke/MethodHandle" ∧ y_isCharacter.cls ≠ "java/lang/invoke/VarHandle" ∧ (parseMethodDescriptor y_isCharacter.desc).map (fun d => d.parameters.length) = some 1 := by decide +kernel
theorem k_isIn : Cond.code y_isIn b_isIn 3 (some .boolean) ∈ wA := wA_1 (i := 149) rfl rfl
theorem e_isIn : y_isIn.cls ≠ "java/lang/invoke/MethodHandle" ∧ y_isIn.cls ≠ "java/lang/invoke/VarHandle" ∧ (parseMethodDescriptor y_isIn.desc).map (fun d => d.parameters.length) = some 2 := by decide +kernel
