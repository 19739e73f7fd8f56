section
-- ===== PART A: goes FIRST, ahead of the names: the tables' words, and 'selects' of the private methods out of them =====
/-- a private method of a class that the tables say can be made, by its rows of tables_1 -/
def lw_okq (q : MethodName × Nat) : Prop := (q.1.cls ≠ "java/lang/invoke/MethodHandle" ∧ q.1.cls ≠ "java/lang/invoke/VarHandle") ∧ Cond.instantiable q.1.cls q.2 ∈ tables_1 ∧ Cond.privateMethod q.1 ∈ tables_1 ∧ Cond.instanceMethod q.1 ∈ tables_1
theorem lw_p0 : lw_okq (⟨"BreakPlaces$Before", "start", "()V"⟩, 6) := ⟨⟨by decide +kernel, by decide +kernel⟩, List.mem_of_getElem? (i := 41) (by decide +kernel), List.mem_of_getElem? (i := 47) (by decide +kernel), List.mem_of_getElem? (i := 48) (by decide +kernel)⟩
theorem lw_p1 : lw_okq (⟨"BreakPlaces", "forgetRules", "()V"⟩, 11) := ⟨⟨by decide +kernel, by decide +kernel⟩, List.mem_of_getElem? (i := 13) (by decide +kernel), List.mem_of_getElem? (i := 114) (by decide +kernel), List.mem_of_getElem? (i := 115) (by decide +kernel)⟩
theorem lw_p2 : lw_okq (⟨"BreakPlaces", "breaksAt", "(I)I"⟩, 11) := ⟨⟨by decide +kernel, by decide +kernel⟩, List.mem_of_getElem? (i := 13) (by decide +kernel), List.mem_of_getElem? (i := 127) (by decide +kernel), List.mem_of_getElem? (i := 128) (by decide +kernel)⟩
theorem lw_p3 : lw_okq (⟨"BreakPlaces", "ruleAt", "(I)I"⟩, 11) := ⟨⟨by decide +kernel, by decide +kernel⟩, List.mem_of_getElem? (i := 13) (by decide +kernel), List.mem_of_getElem? (i := 131) (by decide +kernel), List.mem_of_getElem? (i := 132) (by decide +kernel)⟩
theorem lw_p4 : lw_okq (⟨"BreakPlaces", "kindAt", "(I)I"⟩, 11) := ⟨⟨by decide +kernel, by decide +kernel⟩, List.mem_of_getElem? (i := 13) (by decide +kernel), List.mem_of_getElem? (i := 135) (by decide +kernel), List.mem_of_getElem? (i := 136) (by decide +kernel)⟩
theorem lw_p5 : lw_okq (⟨"BreakPlaces", "findRule", "(II)I"⟩, 11) := ⟨⟨by decide +kernel, by decide +kernel⟩, List.mem_of_getElem? (i := 13) (by decide +kernel), List.mem_of_getElem? (i := 139) (by decide +kernel), List.mem_of_getElem? (i := 140) (by decide +kernel)⟩
theorem lw_p6 : lw_okq (⟨"BreakPlaces", "ruleOfSpaces", "(I)I"⟩, 11) := ⟨⟨by decide +kernel, by decide +kernel⟩, List.mem_of_getElem? (i := 13) (by decide +kernel), List.mem_of_getElem? (i := 143) (by decide +kernel), List.mem_of_getElem? (i := 144) (by decide +kernel)⟩
theorem lw_p7 : lw_okq (⟨"BreakPlaces$Before", "leavesOut", "(I)Z"⟩, 6) := ⟨⟨by decide +kernel, by decide +kernel⟩, List.mem_of_getElem? (i := 41) (by decide +kernel), List.mem_of_getElem? (i := 152) (by decide +kernel), List.mem_of_getElem? (i := 153) (by decide +kernel)⟩
theorem lw_p8 : lw_okq (⟨"BreakPlaces", "ruleOfSigns", "(II)I"⟩, 11) := ⟨⟨by decide +kernel, by decide +kernel⟩, List.mem_of_getElem? (i := 13) (by decide +kernel), List.mem_of_getElem? (i := 172) (by decide +kernel), List.mem_of_getElem? (i := 173) (by decide +kernel)⟩
theorem lw_p9 : lw_okq (⟨"BreakPlaces", "ruleOfMarks", "(III)I"⟩, 11) := ⟨⟨by decide +kernel, by decide +kernel⟩, List.mem_of_getElem? (i := 13) (by decide +kernel), List.mem_of_getElem? (i := 188) (by decide +kernel), List.mem_of_getElem? (i := 189) (by decide +kernel)⟩
theorem lw_p10 : lw_okq (⟨"BreakPlaces$Ranges", "valueOf", "(II)I"⟩, 4) := ⟨⟨by decide +kernel, by decide +kernel⟩, List.mem_of_getElem? (i := 21) (by decide +kernel), List.mem_of_getElem? (i := 196) (by decide +kernel), List.mem_of_getElem? (i := 197) (by decide +kernel)⟩
theorem lw_p11 : lw_okq (⟨"BreakPlaces$Before", "pass", "(II)V"⟩, 6) := ⟨⟨by decide +kernel, by decide +kernel⟩, List.mem_of_getElem? (i := 41) (by decide +kernel), List.mem_of_getElem? (i := 200) (by decide +kernel), List.mem_of_getElem? (i := 201) (by decide +kernel)⟩
theorem lw_p12 : lw_okq (⟨"BreakPlaces", "isBetweenCrAndLf", "(I)Z"⟩, 11) := ⟨⟨by decide +kernel, by decide +kernel⟩, List.mem_of_getElem? (i := 13) (by decide +kernel), List.mem_of_getElem? (i := 206) (by decide +kernel), List.mem_of_getElem? (i := 207) (by decide +kernel)⟩
theorem lw_p13 : lw_okq (⟨"java/lang/Throwable", "fillInStackTrace", "(I)Ljava/lang/Throwable;"⟩, 6) := ⟨⟨by decide +kernel, by decide +kernel⟩, List.mem_of_getElem? (i := 264) (by decide +kernel), List.mem_of_getElem? (i := 262) (by decide +kernel), List.mem_of_getElem? (i := 263) (by decide +kernel)⟩
theorem lw_p14 : lw_okq (⟨"BreakPlaces$Ranges", "isFull", "()Z"⟩, 4) := ⟨⟨by decide +kernel, by decide +kernel⟩, List.mem_of_getElem? (i := 21) (by decide +kernel), List.mem_of_getElem? (i := 294) (by decide +kernel), List.mem_of_getElem? (i := 295) (by decide +kernel)⟩
theorem lw_p15 : lw_okq (⟨"BreakPlaces$Ranges", "tell", "(III)V"⟩, 4) := ⟨⟨by decide +kernel, by decide +kernel⟩, List.mem_of_getElem? (i := 21) (by decide +kernel), List.mem_of_getElem? (i := 314) (by decide +kernel), List.mem_of_getElem? (i := 315) (by decide +kernel)⟩
def lw_privs_1 : List (MethodName × Nat) := [(⟨"BreakPlaces$Before", "start", "()V"⟩, 6), (⟨"BreakPlaces", "forgetRules", "()V"⟩, 11), (⟨"BreakPlaces", "breaksAt", "(I)I"⟩, 11), (⟨"BreakPlaces", "ruleAt", "(I)I"⟩, 11), (⟨"BreakPlaces", "kindAt", "(I)I"⟩, 11), (⟨"BreakPlaces", "findRule", "(II)I"⟩, 11), (⟨"BreakPlaces", "ruleOfSpaces", "(I)I"⟩, 11), (⟨"BreakPlaces$Before", "leavesOut", "(I)Z"⟩, 6), (⟨"BreakPlaces", "ruleOfSigns", "(II)I"⟩, 11), (⟨"BreakPlaces", "ruleOfMarks", "(III)I"⟩, 11), (⟨"BreakPlaces$Ranges", "valueOf", "(II)I"⟩, 4), (⟨"BreakPlaces$Before", "pass", "(II)V"⟩, 6), (⟨"BreakPlaces", "isBetweenCrAndLf", "(I)Z"⟩, 11), (⟨"java/lang/Throwable", "fillInStackTrace", "(I)Ljava/lang/Throwable;"⟩, 6), (⟨"BreakPlaces$Ranges", "isFull", "()Z"⟩, 4), (⟨"BreakPlaces$Ranges", "tell", "(III)V"⟩, 4)]
theorem lw_r1 : ∀ q ∈ lw_privs_1, lw_okq q := List.forall_mem_cons.mpr ⟨lw_p0, List.forall_mem_cons.mpr ⟨lw_p1, List.forall_mem_cons.mpr ⟨lw_p2, List.forall_mem_cons.mpr ⟨lw_p3, List.forall_mem_cons.mpr ⟨lw_p4, List.forall_mem_cons.mpr ⟨lw_p5, List.forall_mem_cons.mpr ⟨lw_p6, List.forall_mem_cons.mpr ⟨lw_p7, List.forall_mem_cons.mpr ⟨lw_p8, List.forall_mem_cons.mpr ⟨lw_p9, List.forall_mem_cons.mpr ⟨lw_p10, List.forall_mem_cons.mpr ⟨lw_p11, List.forall_mem_cons.mpr ⟨lw_p12, List.forall_mem_cons.mpr ⟨lw_p13, List.forall_mem_cons.mpr ⟨lw_p14, List.forall_mem_cons.mpr ⟨lw_p15, fun _ h => absurd h List.not_mem_nil⟩⟩⟩⟩⟩⟩⟩⟩⟩⟩⟩⟩⟩⟩⟩⟩
theorem lw_p16 : lw_okq (⟨"BreakPlaces", "take", "(IIIII)I"⟩, 11) := ⟨⟨by decide +kernel, by decide +kernel⟩, List.mem_of_getElem? (i := 13) (by decide +kernel), List.mem_of_getElem? (i := 335) (by decide +kernel), List.mem_of_getElem? (i := 336) (by decide +kernel)⟩
theorem lw_p17 : lw_okq (⟨"BreakPlaces", "areCharacters", "(I)Z"⟩, 11) := ⟨⟨by decide +kernel, by decide +kernel⟩, List.mem_of_getElem? (i := 13) (by decide +kernel), List.mem_of_getElem? (i := 339) (by decide +kernel), List.mem_of_getElem? (i := 340) (by decide +kernel)⟩
theorem lw_p18 : lw_okq (⟨"BreakPlaces", "putGiven", "(III)V"⟩, 11) := ⟨⟨by decide +kernel, by decide +kernel⟩, List.mem_of_getElem? (i := 13) (by decide +kernel), List.mem_of_getElem? (i := 345) (by decide +kernel), List.mem_of_getElem? (i := 346) (by decide +kernel)⟩
theorem lw_p19 : lw_okq (⟨"BreakPlaces", "isPlace", "(I)Z"⟩, 11) := ⟨⟨by decide +kernel, by decide +kernel⟩, List.mem_of_getElem? (i := 13) (by decide +kernel), List.mem_of_getElem? (i := 360) (by decide +kernel), List.mem_of_getElem? (i := 361) (by decide +kernel)⟩
theorem lw_p20 : lw_okq (⟨"BreakPlaces", "isPosition", "(I)Z"⟩, 11) := ⟨⟨by decide +kernel, by decide +kernel⟩, List.mem_of_getElem? (i := 13) (by decide +kernel), List.mem_of_getElem? (i := 387) (by decide +kernel), List.mem_of_getElem? (i := 388) (by decide +kernel)⟩
theorem lw_p21 : lw_okq (⟨"BreakPlacesModel", "refused", "(I)Z"⟩, 14) := ⟨⟨by decide +kernel, by decide +kernel⟩, List.mem_of_getElem? (i := 430) (by decide +kernel), List.mem_of_getElem? (i := 492) (by decide +kernel), List.mem_of_getElem? (i := 493) (by decide +kernel)⟩
theorem lw_p22 : lw_okq (⟨"BreakPlacesModel", "keep", "(IIIII)V"⟩, 14) := ⟨⟨by decide +kernel, by decide +kernel⟩, List.mem_of_getElem? (i := 430) (by decide +kernel), List.mem_of_getElem? (i := 508) (by decide +kernel), List.mem_of_getElem? (i := 509) (by decide +kernel)⟩
theorem lw_p23 : lw_okq (⟨"BreakPlacesModel", "given", "(I)I"⟩, 14) := ⟨⟨by decide +kernel, by decide +kernel⟩, List.mem_of_getElem? (i := 430) (by decide +kernel), List.mem_of_getElem? (i := 512) (by decide +kernel), List.mem_of_getElem? (i := 513) (by decide +kernel)⟩
theorem lw_p24 : lw_okq (⟨"BreakPlacesModel", "isSound", "(I)Z"⟩, 14) := ⟨⟨by decide +kernel, by decide +kernel⟩, List.mem_of_getElem? (i := 430) (by decide +kernel), List.mem_of_getElem? (i := 516) (by decide +kernel), List.mem_of_getElem? (i := 517) (by decide +kernel)⟩
theorem lw_p25 : lw_okq (⟨"BreakPlacesModel", "isPosition", "(I)Z"⟩, 14) := ⟨⟨by decide +kernel, by decide +kernel⟩, List.mem_of_getElem? (i := 430) (by decide +kernel), List.mem_of_getElem? (i := 532) (by decide +kernel), List.mem_of_getElem? (i := 533) (by decide +kernel)⟩
theorem lw_p26 : lw_okq (⟨"BreakPlacesModel", "classOf", "(I)I"⟩, 14) := ⟨⟨by decide +kernel, by decide +kernel⟩, List.mem_of_getElem? (i := 430) (by decide +kernel), List.mem_of_getElem? (i := 540) (by decide +kernel), List.mem_of_getElem? (i := 541) (by decide +kernel)⟩
theorem lw_p27 : lw_okq (⟨"BreakPlacesModel", "isPlace", "(I)Z"⟩, 14) := ⟨⟨by decide +kernel, by decide +kernel⟩, List.mem_of_getElem? (i := 430) (by decide +kernel), List.mem_of_getElem? (i := 548) (by decide +kernel), List.mem_of_getElem? (i := 549) (by decide +kernel)⟩
theorem lw_p28 : lw_okq (⟨"BreakPlacesModel", "look", "(I)I"⟩, 14) := ⟨⟨by decide +kernel, by decide +kernel⟩, List.mem_of_getElem? (i := 430) (by decide +kernel), List.mem_of_getElem? (i := 552) (by decide +kernel), List.mem_of_getElem? (i := 553) (by decide +kernel)⟩
theorem lw_p29 : lw_okq (⟨"BreakPlacesModel", "early", "(I)I"⟩, 14) := ⟨⟨by decide +kernel, by decide +kernel⟩, List.mem_of_getElem? (i := 430) (by decide +kernel), List.mem_of_getElem? (i := 556) (by decide +kernel), List.mem_of_getElem? (i := 557) (by decide +kernel)⟩
theorem lw_p30 : lw_okq (⟨"BreakPlacesModel", "tell", "(II)I"⟩, 14) := ⟨⟨by decide +kernel, by decide +kernel⟩, List.mem_of_getElem? (i := 430) (by decide +kernel), List.mem_of_getElem? (i := 560) (by decide +kernel), List.mem_of_getElem? (i := 561) (by decide +kernel)⟩
theorem lw_p31 : lw_okq (⟨"BreakPlacesModel", "isLeftOut", "(I)Z"⟩, 14) := ⟨⟨by decide +kernel, by decide +kernel⟩, List.mem_of_getElem? (i := 430) (by decide +kernel), List.mem_of_getElem? (i := 564) (by decide +kernel), List.mem_of_getElem? (i := 565) (by decide +kernel)⟩
def lw_privs_2 : List (MethodName × Nat) := [(⟨"BreakPlaces", "take", "(IIIII)I"⟩, 11), (⟨"BreakPlaces", "areCharacters", "(I)Z"⟩, 11), (⟨"BreakPlaces", "putGiven", "(III)V"⟩, 11), (⟨"BreakPlaces", "isPlace", "(I)Z"⟩, 11), (⟨"BreakPlaces", "isPosition", "(I)Z"⟩, 11), (⟨"BreakPlacesModel", "refused", "(I)Z"⟩, 14), (⟨"BreakPlacesModel", "keep", "(IIIII)V"⟩, 14), (⟨"BreakPlacesModel", "given", "(I)I"⟩, 14), (⟨"BreakPlacesModel", "isSound", "(I)Z"⟩, 14), (⟨"BreakPlacesModel", "isPosition", "(I)Z"⟩, 14), (⟨"BreakPlacesModel", "classOf", "(I)I"⟩, 14), (⟨"BreakPlacesModel", "isPlace", "(I)Z"⟩, 14), (⟨"BreakPlacesModel", "look", "(I)I"⟩, 14), (⟨"BreakPlacesModel", "early", "(I)I"⟩, 14), (⟨"BreakPlacesModel", "tell", "(II)I"⟩, 14), (⟨"BreakPlacesModel", "isLeftOut", "(I)Z"⟩, 14)]
theorem lw_r2 : ∀ q ∈ lw_privs_2, lw_okq q := List.forall_mem_cons.mpr ⟨lw_p16, List.forall_mem_cons.mpr ⟨lw_p17, List.forall_mem_cons.mpr ⟨lw_p18, List.forall_mem_cons.mpr ⟨lw_p19, List.forall_mem_cons.mpr ⟨lw_p20, List.forall_mem_cons.mpr ⟨lw_p21, List.forall_mem_cons.mpr ⟨lw_p22, List.forall_mem_cons.mpr ⟨lw_p23, List.forall_mem_cons.mpr ⟨lw_p24, List.forall_mem_cons.mpr ⟨lw_p25, List.forall_mem_cons.mpr ⟨lw_p26, List.forall_mem_cons.mpr ⟨lw_p27, List.forall_mem_cons.mpr ⟨lw_p28, List.forall_mem_cons.mpr ⟨lw_p29, List.forall_mem_cons.mpr ⟨lw_p30, List.forall_mem_cons.mpr ⟨lw_p31, fun _ h => absurd h List.not_mem_nil⟩⟩⟩⟩⟩⟩⟩⟩⟩⟩⟩⟩⟩⟩⟩⟩
theorem lw_p32 : lw_okq (⟨"BreakPlacesModel", "isMark", "(I)Z"⟩, 14) := ⟨⟨by decide +kernel, by decide +kernel⟩, List.mem_of_getElem? (i := 430) (by decide +kernel), List.mem_of_getElem? (i := 568) (by decide +kernel), List.mem_of_getElem? (i := 569) (by decide +kernel)⟩
theorem lw_p33 : lw_okq (⟨"BreakPlacesModel", "base", "(I)I"⟩, 14) := ⟨⟨by decide +kernel, by decide +kernel⟩, List.mem_of_getElem? (i := 430) (by decide +kernel), List.mem_of_getElem? (i := 572) (by decide +kernel), List.mem_of_getElem? (i := 573) (by decide +kernel)⟩
theorem lw_p34 : lw_okq (⟨"BreakPlacesModel", "baseClass", "(I)I"⟩, 14) := ⟨⟨by decide +kernel, by decide +kernel⟩, List.mem_of_getElem? (i := 430) (by decide +kernel), List.mem_of_getElem? (i := 576) (by decide +kernel), List.mem_of_getElem? (i := 577) (by decide +kernel)⟩
theorem lw_p35 : lw_okq (⟨"BreakPlacesModel", "middle", "(III)I"⟩, 14) := ⟨⟨by decide +kernel, by decide +kernel⟩, List.mem_of_getElem? (i := 430) (by decide +kernel), List.mem_of_getElem? (i := 580) (by decide +kernel), List.mem_of_getElem? (i := 581) (by decide +kernel)⟩
theorem lw_p36 : lw_okq (⟨"BreakPlacesModel", "beforeSpaces", "(I)I"⟩, 14) := ⟨⟨by decide +kernel, by decide +kernel⟩, List.mem_of_getElem? (i := 430) (by decide +kernel), List.mem_of_getElem? (i := 584) (by decide +kernel), List.mem_of_getElem? (i := 585) (by decide +kernel)⟩
theorem lw_p37 : lw_okq (⟨"BreakPlacesModel", "late", "(III)I"⟩, 14) := ⟨⟨by decide +kernel, by decide +kernel⟩, List.mem_of_getElem? (i := 430) (by decide +kernel), List.mem_of_getElem? (i := 588) (by decide +kernel), List.mem_of_getElem? (i := 589) (by decide +kernel)⟩
theorem lw_p38 : lw_okq (⟨"BreakPlacesModel", "last", "(IIII)I"⟩, 14) := ⟨⟨by decide +kernel, by decide +kernel⟩, List.mem_of_getElem? (i := 430) (by decide +kernel), List.mem_of_getElem? (i := 595) (by decide +kernel), List.mem_of_getElem? (i := 596) (by decide +kernel)⟩
theorem lw_p39 : lw_okq (⟨"BreakPlacesModel", "isMarked", "(II)Z"⟩, 14) := ⟨⟨by decide +kernel, by decide +kernel⟩, List.mem_of_getElem? (i := 430) (by decide +kernel), List.mem_of_getElem? (i := 608) (by decide +kernel), List.mem_of_getElem? (i := 609) (by decide +kernel)⟩
theorem lw_p40 : lw_okq (⟨"BreakPlacesModel", "flags", "(I)I"⟩, 14) := ⟨⟨by decide +kernel, by decide +kernel⟩, List.mem_of_getElem? (i := 430) (by decide +kernel), List.mem_of_getElem? (i := 612) (by decide +kernel), List.mem_of_getElem? (i := 613) (by decide +kernel)⟩
def lw_privs_3 : List (MethodName × Nat) := [(⟨"BreakPlacesModel", "isMark", "(I)Z"⟩, 14), (⟨"BreakPlacesModel", "base", "(I)I"⟩, 14), (⟨"BreakPlacesModel", "baseClass", "(I)I"⟩, 14), (⟨"BreakPlacesModel", "middle", "(III)I"⟩, 14), (⟨"BreakPlacesModel", "beforeSpaces", "(I)I"⟩, 14), (⟨"BreakPlacesModel", "late", "(III)I"⟩, 14), (⟨"BreakPlacesModel", "last", "(IIII)I"⟩, 14), (⟨"BreakPlacesModel", "isMarked", "(II)Z"⟩, 14), (⟨"BreakPlacesModel", "flags", "(I)I"⟩, 14)]
theorem lw_r3 : ∀ q ∈ lw_privs_3, lw_okq q := List.forall_mem_cons.mpr ⟨lw_p32, List.forall_mem_cons.mpr ⟨lw_p33, List.forall_mem_cons.mpr ⟨lw_p34, List.forall_mem_cons.mpr ⟨lw_p35, List.forall_mem_cons.mpr ⟨lw_p36, List.forall_mem_cons.mpr ⟨lw_p37, List.forall_mem_cons.mpr ⟨lw_p38, List.forall_mem_cons.mpr ⟨lw_p39, List.forall_mem_cons.mpr ⟨lw_p40, fun _ h => absurd h List.not_mem_nil⟩⟩⟩⟩⟩⟩⟩⟩⟩
def lw_privs : List (MethodName × Nat) := lw_privs_1 ++ (lw_privs_2 ++ (lw_privs_3))
def lw_tbl : List Cond := k2_sels lw_privs ++ tables_1
theorem lw_privs_ok : ∀ q ∈ lw_privs, lw_okq q := by
  show ∀ q ∈ lw_privs_1 ++ (lw_privs_2 ++ (lw_privs_3)), lw_okq q
  exact List.forall_mem_append.mpr ⟨lw_r1, List.forall_mem_append.mpr ⟨lw_r2, lw_r3⟩⟩
end
section
-- whole numbers of 32 bits, as integers
theorem gn_lt {x y : Int32} : x < y ↔ x.toInt < y.toInt := Int32.lt_iff_toInt_lt
theorem gn_le {x y : Int32} : x ≤ y ↔ x.toInt ≤ y.toInt := Int32.le_iff_toInt_le
theorem gn_add {x y : Int32} (h1 : -2147483648 ≤ x.toInt + y.toInt) (h2 : x.toInt + y.toInt ≤ 2147483647) : (x + y).toInt = x.toInt + y.toInt := by
  rw [Int32.toInt_add]
  exact Int.bmod_eq_of_le (by omega) (by omega)
theorem gn_sub {x y : Int32} (h1 : -2147483648 ≤ x.toInt - y.toInt) (h2 : x.toInt - y.toInt ≤ 2147483647) : (x - y).toInt = x.toInt - y.toInt := by
  rw [Int32.toInt_sub]
  exact Int.bmod_eq_of_le (by omega) (by omega)
theorem gn_in {x : Int32} {n : Nat} (h1 : 0 ≤ x.toInt) (h2 : x.toInt < (n : Int)) : vp_in x n := vp_in_iff.mpr ⟨h1, h2⟩
theorem gn_cl {x : Int32} (h : 0 ≤ x.toInt) : (x.toNatClampNeg : Int) = x.toInt := by
  show ((x.toInt.toNat : Nat) : Int) = x.toInt
  omega
theorem gn_0 : (0 : Int32).toInt = 0 := rfl
theorem gn_nn {x : Int32} (h : 0 ≤ x.toInt) : ¬ x < 0 := fun q => by
  have h1 := gn_lt.mp q
  have h0 : (0 : Int32).toInt = 0 := rfl
  omega
theorem gn_le2 {x y : Int32} {n : Nat} (h1 : 0 ≤ x.toInt) (h2 : 0 ≤ y.toInt) (h3 : x.toInt + y.toInt ≤ (n : Int)) : x.toNatClampNeg + y.toNatClampNeg ≤ n := by
  have e1 := gn_cl h1
  have e2 := gn_cl h2
  omega
theorem gn_b1 : (0 : Int32) ≤ 1 := by decide
end
section
-- a small kit of our own over the kit's rows: a world in one word, contracts of methods that end by a return, calls as one row
/-- the world at a place of a walk: tables, cells, apartness, what has changed since the method's start -/
def gk_W (D : va_G) (cl : List vw_C) (tys : List (ClassId × FieldType)) (s : State) (A : Nat → Prop) (H : Heap) (locs : List Loc) (ws : va_W) : Prop :=
  va_K D cl tys s ∧ va_P D cl ws H ∧ va_D A ws ∧ va_S A s.heap H locs ∧ ∀ q : Nat, s.heap.size ≤ q → A q
def gk_B (D : va_G) (cl : List vw_C) (tys : List (ClassId × FieldType)) (wc : va_W) (sz : Nat) : State → Prop := fun U => U.heap.size = sz ∧ va_P D cl wc U.heap ∧ va_K D cl tys U ∧ va_D (fun _ => True) wc
def gk_E {S : Type} (D : va_G) (cl : List vw_C) (tys : List (ClassId × FieldType)) (w1 : S → va_W) (A : Nat → Prop) : S → State → Prop := fun u t => va_P D cl (w1 u) t.heap ∧ va_K D cl tys t ∧ va_D A (w1 u)
/-- a method that answers an int: from the cells wc, with the arguments av, to the cells w1 u -/
def gk_I {S : Type} (l : Launch) (y : MethodName) (ws : List Cond) (rm : Room) (D : va_G) (cl : List vw_C) (tys : List (ClassId × FieldType)) (av : List Value) (wc : va_W) (post : Int32 → S → Prop) (w1 : S → va_W) (mc ms : Nat) : Prop :=
  ∀ sz : Nat, Met l y ws rm (va_Pc av (gk_B D cl tys wc sz)) (va_Qi post (gk_E D cl tys w1 (va_A wc sz)) (va_A wc sz)) mc ms (va_A wc sz)
/-- a method that answers nothing -/
def gk_V {S : Type} (l : Launch) (y : MethodName) (ws : List Cond) (rm : Room) (D : va_G) (cl : List vw_C) (tys : List (ClassId × FieldType)) (av : List Value) (wc : va_W) (post : S → Prop) (w1 : S → va_W) (mc ms : Nat) : Prop :=
  ∀ sz : Nat, Met l y ws rm (va_Pc av (gk_B D cl tys wc sz)) (va_Qv post (gk_E D cl tys w1 (va_A wc sz)) (va_A wc sz)) mc ms (va_A wc sz)
theorem gk_blind {D : va_G} {cl : List vw_C} {tys : List (ClassId × FieldType)} {av : List Value} {wc : va_W} {sz : Nat} : FrameBlind (va_Pc av (gk_B D cl tys wc sz)) := by
  intro a U g mk q
  obtain ⟨q0, q1, qP, qK, qD⟩ := q
  exact ⟨q0, q1, qP, va_K.moved (u := U) (U := U.calling g mk a) (Vm.Alike.refl U.vm) qK, qD⟩
theorem gk_fm {α β : Type} {f : α → Option β} : ∀ (is : List α) (w : List β), is.map f = w.map some → is.filterMap f = w
  | [], [], _ => rfl
  | [], _ :: _, h => by cases h
  | _ :: _, [], h => by cases h
  | a :: is, b :: w, h => by
    have h1 : f a = some b := (List.cons.inj h).1
    have h2 : is.map f = w.map some := (List.cons.inj h).2
    rw [List.filterMap_cons_some h1, gk_fm is w h2]
section
variable {D : va_G} {cl : List vw_C} {tys : List (ClassId × FieldType)} {s : State} {A : Nat → Prop} {H : Heap} {locs : List Loc} {ws wc wr : va_W}
/-- the same cells, fewer or in another order -/
theorem gk_W.re {ws' : va_W} (hW : gk_W D cl tys s A H locs ws) (is : List Nat) (hn : va_nd is = true) (hs : is.map (fun i => ws[i]?) = ws'.map some) : gk_W D cl tys s A H locs ws' :=
  ⟨hW.1, hW.2.1.sub is (gk_fm is ws' hs), hW.2.2.1.sub is hn hs, hW.2.2.2.1, hW.2.2.2.2⟩
theorem gk_W.P (hW : gk_W D cl tys s A H locs ws) : va_P D cl ws H := hW.2.1
/-- what a callee may ask of the cells that it gets -/
theorem gk_pre {av : List Value} (hW : gk_W D cl tys s A H locs ws) (isC : List Nat) (hn : va_nd isC = true) (hC : isC.map (fun i => ws[i]?) = wc.map some) : PreS s H (va_Pc av (gk_B D cl tys wc H.size)) av :=
  ⟨gk_blind, fun U hU hv => ⟨rfl, by rw [hU], by rw [hU]; exact hW.2.1.sub isC (gk_fm isC wc hC), va_K.moved hv.alike hW.1, (hW.2.2.1.sub isC hn hC).weaken (fun _ _ _ _ => trivial)⟩⟩
theorem gk_preV {av : List Value} {a ci : Nat} {fs : List Value} {C : String} {T : u_T} {N : Nat} (hW : gk_W D cl tys s A H locs ws) (isC : List Nat) (hn : va_nd isC = true) (hC : isC.map (fun i => ws[i]?) = wc.map some) (hc : cl[ci]? = some (C, T, N)) (he : wc[0]? = some (a, .inr (ci, fs))) : PreV s H C a (va_Pc (.ref a :: av) (gk_B D cl tys wc H.size)) av :=
  ⟨gk_blind, va_recv hW.1 (hW.2.1.sub isC (gk_fm isC wc hC)) hc he, (gk_pre hW isC hn hC).2⟩
/-- behind a callee that has left its cells as they were -/
theorem gk_W.kept {H1 : Heap} {locs1 : List Loc} (hW : gk_W D cl tys s A H locs ws) (isC : List Nat) (hC : isC.map (fun i => ws[i]?) = wc.map some) (hk : ∀ q : Nat, q < H.size → ¬ va_A wc H.size q → H1[q]? = H[q]?) (hP1 : va_P D cl wc H1) (hS1 : va_S A s.heap H1 locs1) : gk_W D cl tys s A H1 locs1 ws := by
  obtain ⟨hK, hP, hD, hS, hA⟩ := hW
  refine ⟨hK, fun k q hk0 => ?_, hD, hS1, hA⟩
  by_cases hin : ∃ (j : Nat) (e : va_E), wc[j]? = some (q.1, e)
  · obtain ⟨j, e, hj⟩ := hin
    have h1 : (isC.map (fun i => ws[i]?))[j]? = (wc.map some)[j]? := by rw [hC]
    rw [List.getElem?_map, List.getElem?_map, hj] at h1
    cases hi : isC[j]? with
    | none => rw [hi] at h1; cases h1
    | some i =>
      rw [hi] at h1
      have h2 : ws[i]? = some (q.1, e) := Option.some.inj h1
      have h3 : i = k := hD.1 i k _ _ h2 hk0 rfl
      subst h3
      rw [hk0] at h2
      have h4 : q = (q.1, e) := Option.some.inj h2
      have h5 := hP1 j _ hj
      rwa [← h4] at h5
  · refine (hP k q hk0).kept (hk q.1 (hP k q hk0).lt ?_)
    rintro (h | h)
    · exact hin h
    · exact absurd (hP k q hk0).lt (Nat.not_lt.mpr h)
end
section
variable {p : Program} {l : Launch} {e : Env} {R : Room} {s : State} {m : MethodId} {args : Array Value} {below : List Frame} {meth : Method} {c : Code} {H : Heap} {locs : List Loc} {cells slots : Nat} {Q : State → Prop} {D : va_G} {cl : List vw_C} {tys : List (ClassId × FieldType)} {A : Nat → Prop} {ws wc wr : va_W} {pc : Nat} {ls : Array Slot} {rest st0 : List Value} {S : Type} {mc ms : Nat} {a : Array Value}
/-- behind a call that answers an int: the callee's cells as it left them, the rest as it was -/
theorem gk_goI {post : Int32 → S → Prop} {w1 : S → va_W} (hW : gk_W D cl tys s A H locs ws) (isC isR : List Nat) (hC : isC.map (fun i => ws[i]?) = wc.map some) (hR : isR.map (fun i => ws[i]?) = wr.map some) (hn : va_nd isR = true) (hdis : ∀ i ∈ isR, i ∉ isC)
    (hr : va_Run p l e R s m args below meth c H locs cells slots mc ms (F0 m pc ls st0) rest (va_Qi post (gk_E D cl tys w1 (va_A wc H.size)) (va_A wc H.size) a) (va_A wc H.size))
    (kk : ∀ (r : Int32) (u : S) (H1 : Heap) (locs1 : List Loc), post r u → gk_W D cl tys s A H1 locs1 (wr ++ w1 u) → W p l e R s m args below meth c H1 locs1 (cells + mc) (slots + ms) Q (F0 m (pc + 3) ls (.int r :: rest))) : W p l e R s m args below meth c H locs cells slots Q (F0 m pc ls st0) := by
  obtain ⟨hK, hP, hD, hS, hA⟩ := hW
  have hFc := va_free (wc := wc) hD hS hA isC hC
  refine va_calli hr hS (fun q _ h => hFc q h) hFc (fun r u t H1 locs1 ht hvm hw hB hz1 hk1 hS1 => ?_)
  obtain ⟨hP1, hK1, hD1⟩ := hB
  rw [ht] at hP1
  obtain ⟨hP2, hD2⟩ := va_join (wr := wr) (w1 := w1 u) hP hD isC isR hC hR hn hdis hk1 hFc hP1 hD1
  exact kk r u H1 locs1 hw ⟨hK, hP2, hD2, hS1, hA⟩
theorem gk_goV {post : S → Prop} {w1 : S → va_W} (hW : gk_W D cl tys s A H locs ws) (isC isR : List Nat) (hC : isC.map (fun i => ws[i]?) = wc.map some) (hR : isR.map (fun i => ws[i]?) = wr.map some) (hn : va_nd isR = true) (hdis : ∀ i ∈ isR, i ∉ isC)
    (hr : va_Run p l e R s m args below meth c H locs cells slots mc ms (F0 m pc ls st0) rest (va_Qv post (gk_E D cl tys w1 (va_A wc H.size)) (va_A wc H.size) a) (va_A wc H.size))
    (kk : ∀ (u : S) (H1 : Heap) (locs1 : List Loc), post u → gk_W D cl tys s A H1 locs1 (wr ++ w1 u) → W p l e R s m args below meth c H1 locs1 (cells + mc) (slots + ms) Q (F0 m (pc + 3) ls rest)) : W p l e R s m args below meth c H locs cells slots Q (F0 m pc ls st0) := by
  obtain ⟨hK, hP, hD, hS, hA⟩ := hW
  have hFc := va_free (wc := wc) hD hS hA isC hC
  refine va_callv hr hS (fun q _ h => hFc q h) hFc (fun u t H1 locs1 ht hvm hw hB hz1 hk1 hS1 => ?_)
  obtain ⟨hP1, hK1, hD1⟩ := hB
  rw [ht] at hP1
  obtain ⟨hP2, hD2⟩ := va_join (wr := wr) (w1 := w1 u) hP hD isC isR hC hR hn hdis hk1 hFc hP1 hD1
  exact kk u H1 locs1 hw ⟨hK, hP2, hD2, hS1, hA⟩
/-- behind a call that only reads: the answer is v, the world is as it was -/
theorem gk_goR {v : Int32} (hW : gk_W D cl tys s A H locs ws) (isC : List Nat) (hC : isC.map (fun i => ws[i]?) = wc.map some)
    (hr : va_Run p l e R s m args below meth c H locs cells slots 0 0 (F0 m pc ls st0) rest (va_Qi (fun (r : Int32) (_ : Unit) => r = v) (gk_E D cl tys (fun _ => wc) (va_A wc H.size)) (va_A wc H.size) a) (va_A wc H.size))
    (kk : ∀ (H1 : Heap) (locs1 : List Loc), gk_W D cl tys s A H1 locs1 ws → W p l e R s m args below meth c H1 locs1 cells slots Q (F0 m (pc + 3) ls (.int v :: rest))) : W p l e R s m args below meth c H locs cells slots Q (F0 m pc ls st0) := by
  have hFc := va_free (wc := wc) hW.2.2.1 hW.2.2.2.1 hW.2.2.2.2 isC hC
  refine va_calli hr hW.2.2.2.1 (fun q _ h => hFc q h) hFc (fun r u t H1 locs1 ht hvm hw hB hz1 hk1 hS1 => ?_)
  obtain ⟨hP1, hK1, hD1⟩ := hB
  rw [ht] at hP1
  subst hw
  exact kk H1 locs1 (hW.kept isC hC hk1 hP1 hS1)
end
section
variable {l : Launch} {y : MethodName} {ws' : List Cond} {rm : Room} {D : va_G} {cl : List vw_C} {tys : List (ClassId × FieldType)} {av : List Value} {wc : va_W} {S : Type} {mc ms : Nat} {cc : ByteArray} {maxL : Nat}
/-- a contract out of a walk: the walk gets its end as a row -/
theorem gk_I.of {post : Int32 → S → Prop} {w1 : S → va_W} {ty : FieldType} (hy : plainName y.cls = true) (hn : (lg_sl av).length ≤ maxL)
    (body : ∀ (p : Program) (e : Env) (s : State) (m : MethodId) (below : List Frame) (meth : Method) (c : Code) (A : Nat → Prop) (ls : Array Slot) (Q : State → Prop) (H : Heap) (locs : List Loc),
      p.tables.exec = Jvm.exec → c.code = cc → c.maxLocals = maxL → s.vm.findClass y.cls = some m.cls → (∀ w ∈ ws', w.before av.toArray s = true) → gk_W D cl tys s A H locs wc → lv_has ls maxL (lv_args 0 av) →
      (∀ (v : Int32) (u : S) (H : Heap) (locs : List Loc) (cells slots pc : Nat) (ls : Array Slot), post v u → gk_W D cl tys s A H locs (w1 u) → decode cc pc = .ok (.ireturn, 1) → narrow ty (.int v) = .int v → cells ≤ mc → slots ≤ ms → W p l e rm s m av.toArray below meth c H locs cells slots Q (F0 m pc ls [.int v])) →
      W p l e rm s m av.toArray below meth c H locs 0 0 Q (F0 m 0 ls [])) : gk_I l y (.code y cc maxL (some ty) :: ws') rm D cl tys av wc post w1 mc ms := by
  intro sz
  refine Met.ofW (cc := cc) (maxL := maxL) (ret := some ty) hy rfl ?_
  intro p e s m args below meth c s₁ B hml hv
  obtain ⟨rfl, hsz, hP, hK, hD0⟩ := hv
  subst hsz
  have hx := B.exec
  have hb := B.bytes
  have hr := B.returns
  have hlocks := B.notSynchronized
  have hts := atoms_spec (ws := .code y cc maxL (some ty) :: ws') B.pre
  have hown : s.vm.findClass y.cls = some m.cls := findClass_of_methodNamed B.named
  have hD := hD0.self (sz := s.heap.size)
  have hl := lv_entry av (n := maxL) hn
  rw [lg_entry_eq]
  refine body p e s m below meth c (va_A wc s.heap.size) _ _ s.heap [] hx hb hml hown (fun w h => hts w (List.mem_cons_of_mem _ h)) ⟨hK, hP, hD, va_S.rf, fun q h => Or.inr h⟩ hl ?_
  intro v u H locs cells slots pc ls hp hW hd hnar hc1 hc2
  refine W.widen hc1 hc2 ?_
  exact W.zret (v := v) hx hb hr hnar (fun t ht hw => ⟨⟨v, u, rfl, hp, by rw [ht]; exact hW.2.1, va_K.moved hw.alike hW.1, hW.2.2.1⟩, hW.2.2.2.1.F ht⟩) hW.2.2.2.1.2.2 hd hlocks
theorem gk_V.of {post : S → Prop} {w1 : S → va_W} (hy : plainName y.cls = true) (hn : (lg_sl av).length ≤ maxL)
    (body : ∀ (p : Program) (e : Env) (s : State) (m : MethodId) (below : List Frame) (meth : Method) (c : Code) (A : Nat → Prop) (ls : Array Slot) (Q : State → Prop) (H : Heap) (locs : List Loc),
      p.tables.exec = Jvm.exec → c.code = cc → c.maxLocals = maxL → s.vm.findClass y.cls = some m.cls → (∀ w ∈ ws', w.before av.toArray s = true) → meth.name = y.name → gk_W D cl tys s A H locs wc → lv_has ls maxL (lv_args 0 av) →
      (∀ (u : S) (H : Heap) (locs : List Loc) (cells slots pc : Nat) (ls : Array Slot), post u → gk_W D cl tys s A H locs (w1 u) → decode cc pc = .ok (.return_, 1) → cells ≤ mc → slots ≤ ms → W p l e rm s m av.toArray below meth c H locs cells slots Q (F0 m pc ls [])) →
      W p l e rm s m av.toArray below meth c H locs 0 0 Q (F0 m 0 ls [])) : gk_V l y (.code y cc maxL none :: ws') rm D cl tys av wc post w1 mc ms := by
  intro sz
  refine Met.ofW (cc := cc) (maxL := maxL) (ret := none) hy rfl ?_
  intro p e s m args below meth c s₁ B hml hv
  obtain ⟨rfl, hsz, hP, hK, hD0⟩ := hv
  subst hsz
  have hx := B.exec
  have hb := B.bytes
  have hr := B.returns
  have hlocks := B.notSynchronized
  have hts := atoms_spec (ws := .code y cc maxL none :: ws') B.pre
  have hown : s.vm.findClass y.cls = some m.cls := findClass_of_methodNamed B.named
  have hin := (name_of_methodNamed B.named B.method).1
  have hD := hD0.self (sz := s.heap.size)
  have hl := lv_entry av (n := maxL) hn
  rw [lg_entry_eq]
  refine body p e s m below meth c (va_A wc s.heap.size) _ _ s.heap [] hx hb hml hown (fun w h => hts w (List.mem_cons_of_mem _ h)) hin ⟨hK, hP, hD, va_S.rf, fun q h => Or.inr h⟩ hl ?_
  intro u H locs cells slots pc ls hp hW hd hc1 hc2
  refine W.widen hc1 hc2 ?_
  exact W.vret hx hb hr (fun t ht hw => ⟨⟨u, rfl, hp, by rw [ht]; exact hW.2.1, va_K.moved hw.alike hW.1, hW.2.2.1⟩, hW.2.2.2.1.F ht⟩) hW.2.2.2.1.2.2 hd hlocks
end
end
section
abbrev R_P : String := "BreakPlaces"
def F_P : u_T := fun k => match k with
  | 0 => ("BreakPlaces", "text", "[I", true)
  | 1 => ("BreakPlaces", "classes", "[I", true)
  | 2 => ("BreakPlaces", "rules", "[I", true)
  | 3 => ("BreakPlaces", "given", "[I", true)
  | 4 => ("BreakPlaces", "classRanges", "LBreakPlaces$Ranges;", true)
  | 5 => ("BreakPlaces", "wide", "LBreakPlaces$Ranges;", true)
  | 6 => ("BreakPlaces", "pictures", "LBreakPlaces$Ranges;", true)
  | 7 => ("BreakPlaces", "before", "LBreakPlaces$Before;", true)
  | 8 => ("BreakPlaces", "length", "I", false)
  | 9 => ("BreakPlaces", "isLoose", "Z", false)
  | _ => ("BreakPlaces", "known", "I", false)
def t_P : Nat → FieldType := fun k => match k with
  | 0 => .array .int
  | 1 => .array .int
  | 2 => .array .int
  | 3 => .array .int
  | 4 => .object "BreakPlaces$Ranges"
  | 5 => .object "BreakPlaces$Ranges"
  | 6 => .object "BreakPlaces$Ranges"
  | 7 => .object "BreakPlaces$Before"
  | 8 => .int
  | 9 => .boolean
  | _ => .int
theorem n_P : ∀ a, a < 11 → ∀ b, b < 11 → a ≠ b → (F_P a).2.1 ≠ (F_P b).2.1 := by decide +kernel
theorem t_P_ok : ∀ k, k < 11 → parseFieldDescriptor (F_P k).2.2.1 = some (t_P k) := by decide +kernel
abbrev R_R : String := "BreakPlaces$Ranges"
def F_R : u_T := fun k => match k with
  | 0 => ("BreakPlaces$Ranges", "firsts", "[I", true)
  | 1 => ("BreakPlaces$Ranges", "lasts", "[I", true)
  | 2 => ("BreakPlaces$Ranges", "values", "[I", true)
  | _ => ("BreakPlaces$Ranges", "many", "I", false)
def t_R : Nat → FieldType := fun k => match k with
  | 0 => .array .int
  | 1 => .array .int
  | 2 => .array .int
  | _ => .int
theorem n_R : ∀ a, a < 4 → ∀ b, b < 4 → a ≠ b → (F_R a).2.1 ≠ (F_R b).2.1 := by decide +kernel
theorem t_R_ok : ∀ k, k < 4 → parseFieldDescriptor (F_R k).2.2.1 = some (t_R k) := by decide +kernel
abbrev R_B : String := "BreakPlaces$Before"
def F_B : u_T := fun k => match k with
  | 0 => ("BreakPlaces$Before", "last", "I", false)
  | 1 => ("BreakPlaces$Before", "a", "I", false)
  | 2 => ("BreakPlaces$Before", "characterA", "I", false)
  | 3 => ("BreakPlaces$Before", "beforeA", "I", false)
  | 4 => ("BreakPlaces$Before", "solid", "I", false)
  | _ => ("BreakPlaces$Before", "oddRow", "Z", false)
def t_B : Nat → FieldType := fun k => match k with
  | 0 => .int
  | 1 => .int
  | 2 => .int
  | 3 => .int
  | 4 => .int
  | _ => .boolean
theorem n_B : ∀ a, a < 6 → ∀ b, b < 6 → a ≠ b → (F_B a).2.1 ≠ (F_B b).2.1 := by decide +kernel
theorem t_B_ok : ∀ k, k < 6 → parseFieldDescriptor (F_B k).2.2.1 = some (t_B k) := by decide +kernel
abbrev vwCl : List vw_C := [(R_P, F_P, 11), (R_R, F_R, 4), (R_B, F_B, 6)]
abbrev b_isIn : ByteArray := prog_1_method_36_code
def y_isIn : MethodName := ⟨"BreakPlaces", "isIn", "(IJ)Z"⟩
abbrev b_isCharacter : ByteArray := prog_1_method_15_code
def y_isCharacter : MethodName := ⟨"BreakPlaces", "isCharacter", "(I)Z"⟩
abbrev b_isRange : ByteArray := prog_1_method_16_code
def y_isRange : MethodName := ⟨"BreakPlaces", "isRange", "(II)Z"⟩
abbrev b_standsFor : ByteArray := prog_1_method_37_code
def y_standsFor : MethodName := ⟨"BreakPlaces", "standsFor", "(I)I"⟩
abbrev b_ruleOfGlue : ByteArray := prog_1_method_29_code
def y_ruleOfGlue : MethodName := ⟨"BreakPlaces", "ruleOfGlue", "(II)I"⟩
abbrev b_ruleAcrossSpaces : ByteArray := prog_1_method_30_code
def y_ruleAcrossSpaces : MethodName := ⟨"BreakPlaces", "ruleAcrossSpaces", "(II)I"⟩
abbrev b_ruleOfNumbers : ByteArray := prog_1_method_32_code
def y_ruleOfNumbers : MethodName := ⟨"BreakPlaces", "ruleOfNumbers", "(II)I"⟩
abbrev b_ruleOfWords : ByteArray := prog_1_method_33_code
def y_ruleOfWords : MethodName := ⟨"BreakPlaces", "ruleOfWords", "(II)I"⟩
end
section
theorem d_isIn_0 : decode b_isIn 0 = .ok (.iload_n 0, 1) := by decide +kernel
theorem d_isIn_1 : decode b_isIn 1 = .ok (.ifCond .lt 17, 3) := by decide +kernel
theorem d_isIn_4 : decode b_isIn 4 = .ok (.lload_n 1, 1) := by decide +kernel
theorem d_isIn_5 : decode b_isIn 5 = .ok (.iload_n 0, 1) := by decide +kernel
theorem d_isIn_6 : decode b_isIn 6 = .ok (.lshr, 1) := by decide +kernel
theorem d_isIn_7 : decode b_isIn 7 = .ok (.lconst 1, 1) := by decide +kernel
theorem d_isIn_8 : decode b_isIn 8 = .ok (.land, 1) := by decide +kernel
theorem d_isIn_9 : decode b_isIn 9 = .ok (.lconst 0, 1) := by decide +kernel
theorem d_isIn_10 : decode b_isIn 10 = .ok (.lcmp, 1) := by decide +kernel
theorem d_isIn_11 : decode b_isIn 11 = .ok (.ifCond .eq 7, 3) := by decide +kernel
theorem d_isIn_14 : decode b_isIn 14 = .ok (.iconst 1, 1) := by decide +kernel
theorem d_isIn_15 : decode b_isIn 15 = .ok (.goto 4, 3) := by decide +kernel
theorem d_isIn_18 : decode b_isIn 18 = .ok (.iconst 0, 1) := by decide +kernel
theorem d_isIn_19 : decode b_isIn 19 = .ok (.ireturn, 1) := by decide +kernel
theorem d_isCharacter_0 : decode b_isCharacter 0 = .ok (.iload_n 0, 1) := by decide +kernel
theorem d_isCharacter_1 : decode b_isCharacter 1 = .ok (.ifCond .lt 13, 3) := by decide +kernel
theorem d_isCharacter_4 : decode b_isCharacter 4 = .ok (.iload_n 0, 1) := by decide +kernel
theorem d_isCharacter_5 : decode b_isCharacter 5 = .ok (.ldc 134, 2) := by decide +kernel
theorem d_isCharacter_7 : decode b_isCharacter 7 = .ok (.if_icmp .gt 7, 3) := by decide +kernel
theorem d_isCharacter_10 : decode b_isCharacter 10 = .ok (.iconst 1, 1) := by decide +kernel
theorem d_isCharacter_11 : decode b_isCharacter 11 = .ok (.goto 4, 3) := by decide +kernel
theorem d_isCharacter_14 : decode b_isCharacter 14 = .ok (.iconst 0, 1) := by decide +kernel
theorem d_isCharacter_15 : decode b_isCharacter 15 = .ok (.ireturn, 1) := by decide +kernel
theorem d_isRange_0 : decode b_isRange 0 = .ok (.iload_n 0, 1) := by decide +kernel
theorem d_isRange_1 : decode b_isRange 1 = .ok (.invokestatic 135, 3) := by decide +kernel
theorem d_isRange_4 : decode b_isRange 4 = .ok (.ifCond .eq 19, 3) := by decide +kernel
theorem d_isRange_7 : decode b_isRange 7 = .ok (.iload_n 1, 1) := by decide +kernel
theorem d_isRange_8 : decode b_isRange 8 = .ok (.invokestatic 135, 3) := by decide +kernel
theorem d_isRange_11 : decode b_isRange 11 = .ok (.ifCond .eq 12, 3) := by decide +kernel
theorem d_isRange_14 : decode b_isRange 14 = .ok (.iload_n 0, 1) := by decide +kernel
theorem d_isRange_15 : decode b_isRange 15 = .ok (.iload_n 1, 1) := by decide +kernel
theorem d_isRange_16 : decode b_isRange 16 = .ok (.if_icmp .gt 7, 3) := by decide +kernel
theorem d_isRange_19 : decode b_isRange 19 = .ok (.iconst 1, 1) := by decide +kernel
theorem d_isRange_20 : decode b_isRange 20 = .ok (.goto 4, 3) := by decide +kernel
theorem d_isRange_23 : decode b_isRange 23 = .ok (.iconst 0, 1) := by decide +kernel
theorem d_isRange_24 : decode b_isRange 24 = .ok (.ireturn, 1) := by decide +kernel
theorem d_standsFor_0 : decode b_standsFor 0 = .ok (.iload_n 0, 1) := by decide +kernel
theorem d_standsFor_1 : decode b_standsFor 1 = .ok (.ldc2_w 235, 3) := by decide +kernel
theorem d_standsFor_4 : decode b_standsFor 4 = .ok (.invokestatic 130, 3) := by decide +kernel
theorem d_standsFor_7 : decode b_standsFor 7 = .ok (.ifCond .eq 8, 3) := by decide +kernel
theorem d_standsFor_10 : decode b_standsFor 10 = .ok (.bipush 27, 2) := by decide +kernel
theorem d_standsFor_12 : decode b_standsFor 12 = .ok (.goto 4, 3) := by decide +kernel
theorem d_standsFor_15 : decode b_standsFor 15 = .ok (.iload_n 0, 1) := by decide +kernel
theorem d_standsFor_16 : decode b_standsFor 16 = .ok (.ireturn, 1) := by decide +kernel
theorem d_ruleOfGlue_0 : decode b_ruleOfGlue 0 = .ok (.iload_n 0, 1) := by decide +kernel
theorem d_ruleOfGlue_1 : decode b_ruleOfGlue 1 = .ok (.bipush 6, 2) := by decide +kernel
theorem d_ruleOfGlue_3 : decode b_ruleOfGlue 3 = .ok (.if_icmp .eq 9, 3) := by decide +kernel
theorem d_ruleOfGlue_6 : decode b_ruleOfGlue 6 = .ok (.iload_n 1, 1) := by decide +kernel
theorem d_ruleOfGlue_7 : decode b_ruleOfGlue 7 = .ok (.bipush 6, 2) := by decide +kernel
theorem d_ruleOfGlue_9 : decode b_ruleOfGlue 9 = .ok (.if_icmp .ne 6, 3) := by decide +kernel
theorem d_ruleOfGlue_12 : decode b_ruleOfGlue 12 = .ok (.bipush 110, 2) := by decide +kernel
theorem d_ruleOfGlue_14 : decode b_ruleOfGlue 14 = .ok (.ireturn, 1) := by decide +kernel
theorem d_ruleOfGlue_15 : decode b_ruleOfGlue 15 = .ok (.iload_n 0, 1) := by decide +kernel
theorem d_ruleOfGlue_16 : decode b_ruleOfGlue 16 = .ok (.bipush 9, 2) := by decide +kernel
theorem d_ruleOfGlue_18 : decode b_ruleOfGlue 18 = .ok (.if_icmp .ne 6, 3) := by decide +kernel
theorem d_ruleOfGlue_21 : decode b_ruleOfGlue 21 = .ok (.bipush 120, 2) := by decide +kernel
theorem d_ruleOfGlue_23 : decode b_ruleOfGlue 23 = .ok (.ireturn, 1) := by decide +kernel
theorem d_ruleOfGlue_24 : decode b_ruleOfGlue 24 = .ok (.iload_n 1, 1) := by decide +kernel
theorem d_ruleOfGlue_25 : decode b_ruleOfGlue 25 = .ok (.bipush 9, 2) := by decide +kernel
theorem d_ruleOfGlue_27 : decode b_ruleOfGlue 27 = .ok (.if_icmp .ne 21, 3) := by decide +kernel
theorem d_ruleOfGlue_30 : decode b_ruleOfGlue 30 = .ok (.iload_n 0, 1) := by decide +kernel
theorem d_ruleOfGlue_31 : decode b_ruleOfGlue 31 = .ok (.iconst 4, 1) := by decide +kernel
theorem d_ruleOfGlue_32 : decode b_ruleOfGlue 32 = .ok (.if_icmp .eq 16, 3) := by decide +kernel
theorem d_ruleOfGlue_35 : decode b_ruleOfGlue 35 = .ok (.iload_n 0, 1) := by decide +kernel
theorem d_ruleOfGlue_36 : decode b_ruleOfGlue 36 = .ok (.ldc2_w 202, 3) := by decide +kernel
theorem d_ruleOfGlue_39 : decode b_ruleOfGlue 39 = .ok (.invokestatic 130, 3) := by decide +kernel
theorem d_ruleOfGlue_42 : decode b_ruleOfGlue 42 = .ok (.ifCond .ne 6, 3) := by decide +kernel
theorem d_ruleOfGlue_45 : decode b_ruleOfGlue 45 = .ok (.bipush 121, 2) := by decide +kernel
theorem d_ruleOfGlue_47 : decode b_ruleOfGlue 47 = .ok (.ireturn, 1) := by decide +kernel
theorem d_ruleOfGlue_48 : decode b_ruleOfGlue 48 = .ok (.iload_n 1, 1) := by decide +kernel
theorem d_ruleOfGlue_49 : decode b_ruleOfGlue 49 = .ok (.ldc2_w 204, 3) := by decide +kernel
theorem d_ruleOfGlue_52 : decode b_ruleOfGlue 52 = .ok (.invokestatic 130, 3) := by decide +kernel
theorem d_ruleOfGlue_55 : decode b_ruleOfGlue 55 = .ok (.ifCond .eq 9, 3) := by decide +kernel
theorem d_ruleOfGlue_58 : decode b_ruleOfGlue 58 = .ok (.sipush 130, 3) := by decide +kernel
theorem d_ruleOfGlue_61 : decode b_ruleOfGlue 61 = .ok (.goto 4, 3) := by decide +kernel
theorem d_ruleOfGlue_64 : decode b_ruleOfGlue 64 = .ok (.iconst 0, 1) := by decide +kernel
theorem d_ruleOfGlue_65 : decode b_ruleOfGlue 65 = .ok (.ireturn, 1) := by decide +kernel
theorem d_ruleAcrossSpaces_0 : decode b_ruleAcrossSpaces 0 = .ok (.iload_n 0, 1) := by decide +kernel
theorem d_ruleAcrossSpaces_1 : decode b_ruleAcrossSpaces 1 = .ok (.bipush 20, 2) := by decide +kernel
theorem d_ruleAcrossSpaces_3 : decode b_ruleAcrossSpaces 3 = .ok (.if_icmp .ne 7, 3) := by decide +kernel
theorem d_ruleAcrossSpaces_6 : decode b_ruleAcrossSpaces 6 = .ok (.sipush 140, 3) := by decide +kernel
theorem d_ruleAcrossSpaces_9 : decode b_ruleAcrossSpaces 9 = .ok (.ireturn, 1) := by decide +kernel
theorem d_ruleAcrossSpaces_10 : decode b_ruleAcrossSpaces 10 = .ok (.iload_n 0, 1) := by decide +kernel
theorem d_ruleAcrossSpaces_11 : decode b_ruleAcrossSpaces 11 = .ok (.bipush 21, 2) := by decide +kernel
theorem d_ruleAcrossSpaces_13 : decode b_ruleAcrossSpaces 13 = .ok (.if_icmp .ne 13, 3) := by decide +kernel
theorem d_ruleAcrossSpaces_16 : decode b_ruleAcrossSpaces 16 = .ok (.iload_n 1, 1) := by decide +kernel
theorem d_ruleAcrossSpaces_17 : decode b_ruleAcrossSpaces 17 = .ok (.bipush 20, 2) := by decide +kernel
theorem d_ruleAcrossSpaces_19 : decode b_ruleAcrossSpaces 19 = .ok (.if_icmp .ne 7, 3) := by decide +kernel
theorem d_ruleAcrossSpaces_22 : decode b_ruleAcrossSpaces 22 = .ok (.sipush 150, 3) := by decide +kernel
theorem d_ruleAcrossSpaces_25 : decode b_ruleAcrossSpaces 25 = .ok (.ireturn, 1) := by decide +kernel
theorem d_ruleAcrossSpaces_26 : decode b_ruleAcrossSpaces 26 = .ok (.iload_n 0, 1) := by decide +kernel
theorem d_ruleAcrossSpaces_27 : decode b_ruleAcrossSpaces 27 = .ok (.ldc2_w 206, 3) := by decide +kernel
theorem d_ruleAcrossSpaces_30 : decode b_ruleAcrossSpaces 30 = .ok (.invokestatic 130, 3) := by decide +kernel
theorem d_ruleAcrossSpaces_33 : decode b_ruleAcrossSpaces 33 = .ok (.ifCond .eq 13, 3) := by decide +kernel
theorem d_ruleAcrossSpaces_36 : decode b_ruleAcrossSpaces 36 = .ok (.iload_n 1, 1) := by decide +kernel
theorem d_ruleAcrossSpaces_37 : decode b_ruleAcrossSpaces 37 = .ok (.bipush 19, 2) := by decide +kernel
theorem d_ruleAcrossSpaces_39 : decode b_ruleAcrossSpaces 39 = .ok (.if_icmp .ne 7, 3) := by decide +kernel
theorem d_ruleAcrossSpaces_42 : decode b_ruleAcrossSpaces 42 = .ok (.sipush 160, 3) := by decide +kernel
theorem d_ruleAcrossSpaces_45 : decode b_ruleAcrossSpaces 45 = .ok (.ireturn, 1) := by decide +kernel
theorem d_ruleAcrossSpaces_46 : decode b_ruleAcrossSpaces 46 = .ok (.iload_n 0, 1) := by decide +kernel
theorem d_ruleAcrossSpaces_47 : decode b_ruleAcrossSpaces 47 = .ok (.bipush 10, 2) := by decide +kernel
theorem d_ruleAcrossSpaces_49 : decode b_ruleAcrossSpaces 49 = .ok (.if_icmp .ne 15, 3) := by decide +kernel
theorem d_ruleAcrossSpaces_52 : decode b_ruleAcrossSpaces 52 = .ok (.iload_n 1, 1) := by decide +kernel
theorem d_ruleAcrossSpaces_53 : decode b_ruleAcrossSpaces 53 = .ok (.bipush 10, 2) := by decide +kernel
theorem d_ruleAcrossSpaces_55 : decode b_ruleAcrossSpaces 55 = .ok (.if_icmp .ne 9, 3) := by decide +kernel
theorem d_ruleAcrossSpaces_58 : decode b_ruleAcrossSpaces 58 = .ok (.sipush 170, 3) := by decide +kernel
theorem d_ruleAcrossSpaces_61 : decode b_ruleAcrossSpaces 61 = .ok (.goto 4, 3) := by decide +kernel
theorem d_ruleAcrossSpaces_64 : decode b_ruleAcrossSpaces 64 = .ok (.iconst 0, 1) := by decide +kernel
theorem d_ruleAcrossSpaces_65 : decode b_ruleAcrossSpaces 65 = .ok (.ireturn, 1) := by decide +kernel
theorem d_ruleOfNumbers_0 : decode b_ruleOfNumbers 0 = .ok (.iload_n 0, 1) := by decide +kernel
theorem d_ruleOfNumbers_1 : decode b_ruleOfNumbers 1 = .ok (.ldc2_w 211, 3) := by decide +kernel
theorem d_ruleOfNumbers_4 : decode b_ruleOfNumbers 4 = .ok (.invokestatic 130, 3) := by decide +kernel
theorem d_ruleOfNumbers_7 : decode b_ruleOfNumbers 7 = .ok (.ifCond .eq 9, 3) := by decide +kernel
theorem d_ruleOfNumbers_10 : decode b_ruleOfNumbers 10 = .ok (.iload_n 1, 1) := by decide +kernel
theorem d_ruleOfNumbers_11 : decode b_ruleOfNumbers 11 = .ok (.bipush 23, 2) := by decide +kernel
theorem d_ruleOfNumbers_13 : decode b_ruleOfNumbers 13 = .ok (.if_icmp .eq 19, 3) := by decide +kernel
theorem d_ruleOfNumbers_16 : decode b_ruleOfNumbers 16 = .ok (.iload_n 0, 1) := by decide +kernel
theorem d_ruleOfNumbers_17 : decode b_ruleOfNumbers 17 = .ok (.bipush 23, 2) := by decide +kernel
theorem d_ruleOfNumbers_19 : decode b_ruleOfNumbers 19 = .ok (.if_icmp .ne 17, 3) := by decide +kernel
theorem d_ruleOfNumbers_22 : decode b_ruleOfNumbers 22 = .ok (.iload_n 1, 1) := by decide +kernel
theorem d_ruleOfNumbers_23 : decode b_ruleOfNumbers 23 = .ok (.ldc2_w 211, 3) := by decide +kernel
theorem d_ruleOfNumbers_26 : decode b_ruleOfNumbers 26 = .ok (.invokestatic 130, 3) := by decide +kernel
theorem d_ruleOfNumbers_29 : decode b_ruleOfNumbers 29 = .ok (.ifCond .eq 7, 3) := by decide +kernel
theorem d_ruleOfNumbers_32 : decode b_ruleOfNumbers 32 = .ok (.sipush 230, 3) := by decide +kernel
theorem d_ruleOfNumbers_35 : decode b_ruleOfNumbers 35 = .ok (.ireturn, 1) := by decide +kernel
theorem d_ruleOfNumbers_36 : decode b_ruleOfNumbers 36 = .ok (.iload_n 0, 1) := by decide +kernel
theorem d_ruleOfNumbers_37 : decode b_ruleOfNumbers 37 = .ok (.bipush 25, 2) := by decide +kernel
theorem d_ruleOfNumbers_39 : decode b_ruleOfNumbers 39 = .ok (.if_icmp .ne 13, 3) := by decide +kernel
theorem d_ruleOfNumbers_42 : decode b_ruleOfNumbers 42 = .ok (.iload_n 1, 1) := by decide +kernel
theorem d_ruleOfNumbers_43 : decode b_ruleOfNumbers 43 = .ok (.ldc2_w 213, 3) := by decide +kernel
theorem d_ruleOfNumbers_46 : decode b_ruleOfNumbers 46 = .ok (.invokestatic 130, 3) := by decide +kernel
theorem d_ruleOfNumbers_49 : decode b_ruleOfNumbers 49 = .ok (.ifCond .ne 19, 3) := by decide +kernel
theorem d_ruleOfNumbers_52 : decode b_ruleOfNumbers 52 = .ok (.iload_n 0, 1) := by decide +kernel
theorem d_ruleOfNumbers_53 : decode b_ruleOfNumbers 53 = .ok (.ldc2_w 213, 3) := by decide +kernel
theorem d_ruleOfNumbers_56 : decode b_ruleOfNumbers 56 = .ok (.invokestatic 130, 3) := by decide +kernel
theorem d_ruleOfNumbers_59 : decode b_ruleOfNumbers 59 = .ok (.ifCond .eq 13, 3) := by decide +kernel
theorem d_ruleOfNumbers_62 : decode b_ruleOfNumbers 62 = .ok (.iload_n 1, 1) := by decide +kernel
theorem d_ruleOfNumbers_63 : decode b_ruleOfNumbers 63 = .ok (.bipush 24, 2) := by decide +kernel
theorem d_ruleOfNumbers_65 : decode b_ruleOfNumbers 65 = .ok (.if_icmp .ne 7, 3) := by decide +kernel
theorem d_ruleOfNumbers_68 : decode b_ruleOfNumbers 68 = .ok (.sipush 231, 3) := by decide +kernel
theorem d_ruleOfNumbers_71 : decode b_ruleOfNumbers 71 = .ok (.ireturn, 1) := by decide +kernel
theorem d_ruleOfNumbers_72 : decode b_ruleOfNumbers 72 = .ok (.iload_n 0, 1) := by decide +kernel
theorem d_ruleOfNumbers_73 : decode b_ruleOfNumbers 73 = .ok (.ldc2_w 215, 3) := by decide +kernel
theorem d_ruleOfNumbers_76 : decode b_ruleOfNumbers 76 = .ok (.invokestatic 130, 3) := by decide +kernel
theorem d_ruleOfNumbers_79 : decode b_ruleOfNumbers 79 = .ok (.ifCond .eq 13, 3) := by decide +kernel
theorem d_ruleOfNumbers_82 : decode b_ruleOfNumbers 82 = .ok (.iload_n 1, 1) := by decide +kernel
theorem d_ruleOfNumbers_83 : decode b_ruleOfNumbers 83 = .ok (.ldc2_w 211, 3) := by decide +kernel
theorem d_ruleOfNumbers_86 : decode b_ruleOfNumbers 86 = .ok (.invokestatic 130, 3) := by decide +kernel
theorem d_ruleOfNumbers_89 : decode b_ruleOfNumbers 89 = .ok (.ifCond .ne 23, 3) := by decide +kernel
theorem d_ruleOfNumbers_92 : decode b_ruleOfNumbers 92 = .ok (.iload_n 0, 1) := by decide +kernel
theorem d_ruleOfNumbers_93 : decode b_ruleOfNumbers 93 = .ok (.ldc2_w 211, 3) := by decide +kernel
theorem d_ruleOfNumbers_96 : decode b_ruleOfNumbers 96 = .ok (.invokestatic 130, 3) := by decide +kernel
theorem d_ruleOfNumbers_99 : decode b_ruleOfNumbers 99 = .ok (.ifCond .eq 17, 3) := by decide +kernel
theorem d_ruleOfNumbers_102 : decode b_ruleOfNumbers 102 = .ok (.iload_n 1, 1) := by decide +kernel
theorem d_ruleOfNumbers_103 : decode b_ruleOfNumbers 103 = .ok (.ldc2_w 215, 3) := by decide +kernel
theorem d_ruleOfNumbers_106 : decode b_ruleOfNumbers 106 = .ok (.invokestatic 130, 3) := by decide +kernel
theorem d_ruleOfNumbers_109 : decode b_ruleOfNumbers 109 = .ok (.ifCond .eq 7, 3) := by decide +kernel
theorem d_ruleOfNumbers_112 : decode b_ruleOfNumbers 112 = .ok (.sipush 240, 3) := by decide +kernel
theorem d_ruleOfNumbers_115 : decode b_ruleOfNumbers 115 = .ok (.ireturn, 1) := by decide +kernel
theorem d_ruleOfNumbers_116 : decode b_ruleOfNumbers 116 = .ok (.iload_n 0, 1) := by decide +kernel
theorem d_ruleOfNumbers_117 : decode b_ruleOfNumbers 117 = .ok (.ldc2_w 217, 3) := by decide +kernel
theorem d_ruleOfNumbers_120 : decode b_ruleOfNumbers 120 = .ok (.invokestatic 130, 3) := by decide +kernel
theorem d_ruleOfNumbers_123 : decode b_ruleOfNumbers 123 = .ok (.ifCond .eq 17, 3) := by decide +kernel
theorem d_ruleOfNumbers_126 : decode b_ruleOfNumbers 126 = .ok (.iload_n 1, 1) := by decide +kernel
theorem d_ruleOfNumbers_127 : decode b_ruleOfNumbers 127 = .ok (.ldc2_w 215, 3) := by decide +kernel
theorem d_ruleOfNumbers_130 : decode b_ruleOfNumbers 130 = .ok (.invokestatic 130, 3) := by decide +kernel
theorem d_ruleOfNumbers_133 : decode b_ruleOfNumbers 133 = .ok (.ifCond .eq 7, 3) := by decide +kernel
theorem d_ruleOfNumbers_136 : decode b_ruleOfNumbers 136 = .ok (.sipush 250, 3) := by decide +kernel
theorem d_ruleOfNumbers_139 : decode b_ruleOfNumbers 139 = .ok (.ireturn, 1) := by decide +kernel
theorem d_ruleOfNumbers_140 : decode b_ruleOfNumbers 140 = .ok (.iload_n 0, 1) := by decide +kernel
theorem d_ruleOfNumbers_141 : decode b_ruleOfNumbers 141 = .ok (.ldc2_w 215, 3) := by decide +kernel
theorem d_ruleOfNumbers_144 : decode b_ruleOfNumbers 144 = .ok (.invokestatic 130, 3) := by decide +kernel
theorem d_ruleOfNumbers_147 : decode b_ruleOfNumbers 147 = .ok (.ifCond .eq 19, 3) := by decide +kernel
theorem d_ruleOfNumbers_150 : decode b_ruleOfNumbers 150 = .ok (.iload_n 1, 1) := by decide +kernel
theorem d_ruleOfNumbers_151 : decode b_ruleOfNumbers 151 = .ok (.bipush 20, 2) := by decide +kernel
theorem d_ruleOfNumbers_153 : decode b_ruleOfNumbers 153 = .ok (.if_icmp .eq 9, 3) := by decide +kernel
theorem d_ruleOfNumbers_156 : decode b_ruleOfNumbers 156 = .ok (.iload_n 1, 1) := by decide +kernel
theorem d_ruleOfNumbers_157 : decode b_ruleOfNumbers 157 = .ok (.bipush 23, 2) := by decide +kernel
theorem d_ruleOfNumbers_159 : decode b_ruleOfNumbers 159 = .ok (.if_icmp .ne 7, 3) := by decide +kernel
theorem d_ruleOfNumbers_162 : decode b_ruleOfNumbers 162 = .ok (.sipush 250, 3) := by decide +kernel
theorem d_ruleOfNumbers_165 : decode b_ruleOfNumbers 165 = .ok (.ireturn, 1) := by decide +kernel
theorem d_ruleOfNumbers_166 : decode b_ruleOfNumbers 166 = .ok (.iload_n 0, 1) := by decide +kernel
theorem d_ruleOfNumbers_167 : decode b_ruleOfNumbers 167 = .ok (.ldc2_w 219, 3) := by decide +kernel
theorem d_ruleOfNumbers_170 : decode b_ruleOfNumbers 170 = .ok (.invokestatic 130, 3) := by decide +kernel
theorem d_ruleOfNumbers_173 : decode b_ruleOfNumbers 173 = .ok (.ifCond .eq 15, 3) := by decide +kernel
theorem d_ruleOfNumbers_176 : decode b_ruleOfNumbers 176 = .ok (.iload_n 1, 1) := by decide +kernel
theorem d_ruleOfNumbers_177 : decode b_ruleOfNumbers 177 = .ok (.bipush 23, 2) := by decide +kernel
theorem d_ruleOfNumbers_179 : decode b_ruleOfNumbers 179 = .ok (.if_icmp .ne 9, 3) := by decide +kernel
theorem d_ruleOfNumbers_182 : decode b_ruleOfNumbers 182 = .ok (.sipush 250, 3) := by decide +kernel
theorem d_ruleOfNumbers_185 : decode b_ruleOfNumbers 185 = .ok (.goto 4, 3) := by decide +kernel
theorem d_ruleOfNumbers_188 : decode b_ruleOfNumbers 188 = .ok (.iconst 0, 1) := by decide +kernel
theorem d_ruleOfNumbers_189 : decode b_ruleOfNumbers 189 = .ok (.ireturn, 1) := by decide +kernel
theorem d_ruleOfWords_0 : decode b_ruleOfWords 0 = .ok (.iload_n 0, 1) := by decide +kernel
theorem d_ruleOfWords_1 : decode b_ruleOfWords 1 = .ok (.bipush 34, 2) := by decide +kernel
theorem d_ruleOfWords_3 : decode b_ruleOfWords 3 = .ok (.if_icmp .ne 31, 3) := by decide +kernel
theorem d_ruleOfWords_6 : decode b_ruleOfWords 6 = .ok (.iload_n 1, 1) := by decide +kernel
theorem d_ruleOfWords_7 : decode b_ruleOfWords 7 = .ok (.bipush 34, 2) := by decide +kernel
theorem d_ruleOfWords_9 : decode b_ruleOfWords 9 = .ok (.if_icmp .eq 21, 3) := by decide +kernel
theorem d_ruleOfWords_12 : decode b_ruleOfWords 12 = .ok (.iload_n 1, 1) := by decide +kernel
theorem d_ruleOfWords_13 : decode b_ruleOfWords 13 = .ok (.bipush 35, 2) := by decide +kernel
theorem d_ruleOfWords_15 : decode b_ruleOfWords 15 = .ok (.if_icmp .eq 15, 3) := by decide +kernel
theorem d_ruleOfWords_18 : decode b_ruleOfWords 18 = .ok (.iload_n 1, 1) := by decide +kernel
theorem d_ruleOfWords_19 : decode b_ruleOfWords 19 = .ok (.bipush 32, 2) := by decide +kernel
theorem d_ruleOfWords_21 : decode b_ruleOfWords 21 = .ok (.if_icmp .eq 9, 3) := by decide +kernel
theorem d_ruleOfWords_24 : decode b_ruleOfWords 24 = .ok (.iload_n 1, 1) := by decide +kernel
theorem d_ruleOfWords_25 : decode b_ruleOfWords 25 = .ok (.bipush 33, 2) := by decide +kernel
theorem d_ruleOfWords_27 : decode b_ruleOfWords 27 = .ok (.if_icmp .ne 7, 3) := by decide +kernel
theorem d_ruleOfWords_30 : decode b_ruleOfWords 30 = .ok (.sipush 260, 3) := by decide +kernel
theorem d_ruleOfWords_33 : decode b_ruleOfWords 33 = .ok (.ireturn, 1) := by decide +kernel
theorem d_ruleOfWords_34 : decode b_ruleOfWords 34 = .ok (.iload_n 0, 1) := by decide +kernel
theorem d_ruleOfWords_35 : decode b_ruleOfWords 35 = .ok (.bipush 35, 2) := by decide +kernel
theorem d_ruleOfWords_37 : decode b_ruleOfWords 37 = .ok (.if_icmp .eq 9, 3) := by decide +kernel
theorem d_ruleOfWords_40 : decode b_ruleOfWords 40 = .ok (.iload_n 0, 1) := by decide +kernel
theorem d_ruleOfWords_41 : decode b_ruleOfWords 41 = .ok (.bipush 32, 2) := by decide +kernel
theorem d_ruleOfWords_43 : decode b_ruleOfWords 43 = .ok (.if_icmp .ne 19, 3) := by decide +kernel
theorem d_ruleOfWords_46 : decode b_ruleOfWords 46 = .ok (.iload_n 1, 1) := by decide +kernel
theorem d_ruleOfWords_47 : decode b_ruleOfWords 47 = .ok (.bipush 35, 2) := by decide +kernel
theorem d_ruleOfWords_49 : decode b_ruleOfWords 49 = .ok (.if_icmp .eq 9, 3) := by decide +kernel
theorem d_ruleOfWords_52 : decode b_ruleOfWords 52 = .ok (.iload_n 1, 1) := by decide +kernel
theorem d_ruleOfWords_53 : decode b_ruleOfWords 53 = .ok (.bipush 36, 2) := by decide +kernel
theorem d_ruleOfWords_55 : decode b_ruleOfWords 55 = .ok (.if_icmp .ne 7, 3) := by decide +kernel
theorem d_ruleOfWords_58 : decode b_ruleOfWords 58 = .ok (.sipush 260, 3) := by decide +kernel
theorem d_ruleOfWords_61 : decode b_ruleOfWords 61 = .ok (.ireturn, 1) := by decide +kernel
theorem d_ruleOfWords_62 : decode b_ruleOfWords 62 = .ok (.iload_n 0, 1) := by decide +kernel
theorem d_ruleOfWords_63 : decode b_ruleOfWords 63 = .ok (.bipush 36, 2) := by decide +kernel
theorem d_ruleOfWords_65 : decode b_ruleOfWords 65 = .ok (.if_icmp .eq 9, 3) := by decide +kernel
theorem d_ruleOfWords_68 : decode b_ruleOfWords 68 = .ok (.iload_n 0, 1) := by decide +kernel
theorem d_ruleOfWords_69 : decode b_ruleOfWords 69 = .ok (.bipush 33, 2) := by decide +kernel
theorem d_ruleOfWords_71 : decode b_ruleOfWords 71 = .ok (.if_icmp .ne 13, 3) := by decide +kernel
theorem d_ruleOfWords_74 : decode b_ruleOfWords 74 = .ok (.iload_n 1, 1) := by decide +kernel
theorem d_ruleOfWords_75 : decode b_ruleOfWords 75 = .ok (.bipush 36, 2) := by decide +kernel
theorem d_ruleOfWords_77 : decode b_ruleOfWords 77 = .ok (.if_icmp .ne 7, 3) := by decide +kernel
theorem d_ruleOfWords_80 : decode b_ruleOfWords 80 = .ok (.sipush 260, 3) := by decide +kernel
theorem d_ruleOfWords_83 : decode b_ruleOfWords 83 = .ok (.ireturn, 1) := by decide +kernel
theorem d_ruleOfWords_84 : decode b_ruleOfWords 84 = .ok (.iload_n 0, 1) := by decide +kernel
theorem d_ruleOfWords_85 : decode b_ruleOfWords 85 = .ok (.ldc2_w 221, 3) := by decide +kernel
theorem d_ruleOfWords_88 : decode b_ruleOfWords 88 = .ok (.invokestatic 130, 3) := by decide +kernel
theorem d_ruleOfWords_91 : decode b_ruleOfWords 91 = .ok (.ifCond .eq 9, 3) := by decide +kernel
theorem d_ruleOfWords_94 : decode b_ruleOfWords 94 = .ok (.iload_n 1, 1) := by decide +kernel
theorem d_ruleOfWords_95 : decode b_ruleOfWords 95 = .ok (.bipush 24, 2) := by decide +kernel
theorem d_ruleOfWords_97 : decode b_ruleOfWords 97 = .ok (.if_icmp .eq 19, 3) := by decide +kernel
theorem d_ruleOfWords_100 : decode b_ruleOfWords 100 = .ok (.iload_n 0, 1) := by decide +kernel
theorem d_ruleOfWords_101 : decode b_ruleOfWords 101 = .ok (.bipush 25, 2) := by decide +kernel
theorem d_ruleOfWords_103 : decode b_ruleOfWords 103 = .ok (.if_icmp .ne 17, 3) := by decide +kernel
theorem d_ruleOfWords_106 : decode b_ruleOfWords 106 = .ok (.iload_n 1, 1) := by decide +kernel
theorem d_ruleOfWords_107 : decode b_ruleOfWords 107 = .ok (.ldc2_w 221, 3) := by decide +kernel
theorem d_ruleOfWords_110 : decode b_ruleOfWords 110 = .ok (.invokestatic 130, 3) := by decide +kernel
theorem d_ruleOfWords_113 : decode b_ruleOfWords 113 = .ok (.ifCond .eq 7, 3) := by decide +kernel
theorem d_ruleOfWords_116 : decode b_ruleOfWords 116 = .ok (.sipush 270, 3) := by decide +kernel
theorem d_ruleOfWords_119 : decode b_ruleOfWords 119 = .ok (.ireturn, 1) := by decide +kernel
theorem d_ruleOfWords_120 : decode b_ruleOfWords 120 = .ok (.iload_n 0, 1) := by decide +kernel
theorem d_ruleOfWords_121 : decode b_ruleOfWords 121 = .ok (.ldc2_w 211, 3) := by decide +kernel
theorem d_ruleOfWords_124 : decode b_ruleOfWords 124 = .ok (.invokestatic 130, 3) := by decide +kernel
theorem d_ruleOfWords_127 : decode b_ruleOfWords 127 = .ok (.ifCond .eq 17, 3) := by decide +kernel
theorem d_ruleOfWords_130 : decode b_ruleOfWords 130 = .ok (.iload_n 1, 1) := by decide +kernel
theorem d_ruleOfWords_131 : decode b_ruleOfWords 131 = .ok (.ldc2_w 211, 3) := by decide +kernel
theorem d_ruleOfWords_134 : decode b_ruleOfWords 134 = .ok (.invokestatic 130, 3) := by decide +kernel
theorem d_ruleOfWords_137 : decode b_ruleOfWords 137 = .ok (.ifCond .eq 7, 3) := by decide +kernel
theorem d_ruleOfWords_140 : decode b_ruleOfWords 140 = .ok (.sipush 280, 3) := by decide +kernel
theorem d_ruleOfWords_143 : decode b_ruleOfWords 143 = .ok (.ireturn, 1) := by decide +kernel
theorem d_ruleOfWords_144 : decode b_ruleOfWords 144 = .ok (.iload_n 0, 1) := by decide +kernel
theorem d_ruleOfWords_145 : decode b_ruleOfWords 145 = .ok (.bipush 22, 2) := by decide +kernel
theorem d_ruleOfWords_147 : decode b_ruleOfWords 147 = .ok (.if_icmp .ne 19, 3) := by decide +kernel
theorem d_ruleOfWords_150 : decode b_ruleOfWords 150 = .ok (.iload_n 1, 1) := by decide +kernel
theorem d_ruleOfWords_151 : decode b_ruleOfWords 151 = .ok (.ldc2_w 211, 3) := by decide +kernel
theorem d_ruleOfWords_154 : decode b_ruleOfWords 154 = .ok (.invokestatic 130, 3) := by decide +kernel
theorem d_ruleOfWords_157 : decode b_ruleOfWords 157 = .ok (.ifCond .eq 9, 3) := by decide +kernel
theorem d_ruleOfWords_160 : decode b_ruleOfWords 160 = .ok (.sipush 290, 3) := by decide +kernel
theorem d_ruleOfWords_163 : decode b_ruleOfWords 163 = .ok (.goto 4, 3) := by decide +kernel
theorem d_ruleOfWords_166 : decode b_ruleOfWords 166 = .ok (.iconst 0, 1) := by decide +kernel
theorem d_ruleOfWords_167 : decode b_ruleOfWords 167 = .ok (.ireturn, 1) := by decide +kernel
end
section
-- the tables' words that stay true as tables grow warm: one list for all methods
def wA : List Cond := lw_tbl.filter goodWord
theorem wA_of {w : Cond} (h : w ∈ lw_tbl) (g : goodWord w = true) : w ∈ wA := List.mem_filter.mpr ⟨h, g⟩
theorem wA_1 {w : Cond} {i : Nat} (h : tables_1_1[i]? = some w) (g : goodWord w = true) : w ∈ wA := wA_of (List.mem_append_right _ (List.mem_append_left _ (List.mem_of_getElem? h))) g
theorem wA_2 {w : Cond} {i : Nat} (h : tables_1_2[i]? = some w) (g : goodWord w = true) : w ∈ wA := wA_of (List.mem_append_right _ (List.mem_append_right _ (List.mem_append_left _ (List.mem_of_getElem? h)))) g
theorem wA_3 {w : Cond} {i : Nat} (h : tables_1_3[i]? = some w) (g : goodWord w = true) : w ∈ wA := wA_of (List.mem_append_right _ (List.mem_append_right _ (List.mem_append_right _ (List.mem_of_getElem? h)))) g
theorem wA_s {w : Cond} {i : Nat} (h : (k2_sels lw_privs)[i]? = some w) (g : goodWord w = true) : w ∈ wA := wA_of (List.mem_append_left _ (List.mem_of_getElem? h)) g
def gk_and (P : Cond → Prop) : List Cond → Prop
  | [] => True
  | w :: r => P w ∧ gk_and P r
theorem gk_all1 {P : Cond → Prop} : ∀ (l : List Cond), gk_and P l → ∀ w ∈ l, P w
  | [], _, _, h => absurd h List.not_mem_nil
  | a :: r, hp, w, h => (List.mem_cons.mp h).elim (fun e => e ▸ hp.1) (fun h => gk_all1 r hp.2 w h)
theorem gk_all {ws : List Cond} (l : List Cond) (e : ws = l) (h : gk_and (fun w => w ∈ wA) l) : ∀ w ∈ ws, w ∈ wA := e ▸ gk_all1 l h
theorem gk_good {ws : List Cond} (h : ∀ w ∈ ws, w ∈ wA) : GoodIn wA ws := fun w hw => ⟨h w hw, good_of_word (List.mem_filter.mp (h w hw)).2⟩
theorem gk_cons {c : Cond} (h : c ∈ wA) : ∀ w ∈ c :: wA, w ∈ wA := fun w hw => (List.mem_cons.mp hw).elim (fun e => e ▸ h) id
section
variable {R : Room} {s : State} {args : Array Value} {own host C : String} {index maxL n mc ms : Nat} {y : MethodName} {bytes : ByteArray} {ret : Option FieldType} {rm : Room}
theorem gk_cwS (hts : ∀ w ∈ wA, w.before args s = true) (h1 : Cond.methodLink own index y ∈ wA) (h2 : Cond.static y ∈ wA) (h3 : Cond.initialized own ∈ wA) (h4 : Cond.code y bytes maxL ret ∈ wA) (hc : y.cls = own)
    (hd : y.cls ≠ "java/lang/invoke/MethodHandle" ∧ y.cls ≠ "java/lang/invoke/VarHandle" ∧ (parseMethodDescriptor y.desc).map (fun d => d.parameters.length) = some n) (hrc : rm.cells = mc) (hrs : rm.slots = ms) (hR : rm.frames + 1 ≤ R.frames ∧ 8 + (maxL + 11) + rm.locals ≤ R.locals) :
    CallB R s args own index y bytes maxL ret (.code y bytes maxL ret :: wA) rm mc ms n ∧ (Cond.static y).before args s = true :=
  cwS n hts (gk_good (fun w hw => (List.mem_append.mp hw).elim (gk_all1 [_, _, _] ⟨h1, h2, h3, trivial⟩ w) (gk_cons h4 w))) rfl hrc hrs ⟨hc, hd⟩ hR
theorem gk_cwV (hts : ∀ w ∈ wA, w.before args s = true) (h1 : Cond.methodLink own index y ∈ wA) (h2 : Cond.instanceMethod y ∈ wA) (h5 : Cond.selects C y y ∈ wA) (h3 : Cond.initialized C ∈ wA) (h4 : Cond.code y bytes maxL ret ∈ wA) (hc : y.cls = C)
    (hd : y.cls ≠ "java/lang/invoke/MethodHandle" ∧ y.cls ≠ "java/lang/invoke/VarHandle" ∧ (parseMethodDescriptor y.desc).map (fun d => d.parameters.length) = some n) (hrc : rm.cells = mc) (hrs : rm.slots = ms) (hR : rm.frames + 1 ≤ R.frames ∧ 8 + (maxL + 11) + rm.locals ≤ R.locals) :
    CallW R s args own C index y bytes maxL ret (.code y bytes maxL ret :: wA) rm mc ms n :=
  cwV n hts (gk_good (fun w hw => (List.mem_append.mp hw).elim (gk_all1 [_, _, _, _] ⟨h1, h2, h5, h3, trivial⟩ w) (gk_cons h4 w))) rfl hrc hrs ⟨hc, hd⟩ hR
theorem gk_cwSN (hts : ∀ w ∈ wA, w.before args s = true) (h1 : Cond.methodLinkNest own index y host ∈ wA) (h2 : Cond.static y ∈ wA) (h3 : Cond.initialized y.cls ∈ wA) (h4 : Cond.code y bytes maxL ret ∈ wA)
    (hd : y.cls ≠ "java/lang/invoke/MethodHandle" ∧ y.cls ≠ "java/lang/invoke/VarHandle" ∧ (parseMethodDescriptor y.desc).map (fun d => d.parameters.length) = some n) (hrc : rm.cells = mc) (hrs : rm.slots = ms) (hR : rm.frames + 1 ≤ R.frames ∧ 8 + (maxL + 11) + rm.locals ≤ R.locals) :
    va_CN R s args own index y host bytes maxL ret (.code y bytes maxL ret :: wA) rm mc ms n ∧ (Cond.static y).before args s = true ∧ True :=
  ⟨va_cnB n hts (gk_good (gk_cons h4)) rfl hrc hrs (va_Nw.of rfl (hts _ h1)) (hts _ h3) hd hR, hts _ h2, trivial⟩
theorem gk_cwVN (hts : ∀ w ∈ wA, w.before args s = true) (h1 : Cond.methodLinkNest own index y host ∈ wA) (h2 : Cond.instanceMethod y ∈ wA) (h5 : Cond.selects C y y ∈ wA) (h3 : Cond.initialized y.cls ∈ wA) (h4 : Cond.code y bytes maxL ret ∈ wA)
    (hd : y.cls ≠ "java/lang/invoke/MethodHandle" ∧ y.cls ≠ "java/lang/invoke/VarHandle" ∧ (parseMethodDescriptor y.desc).map (fun d => d.parameters.length) = some n) (hrc : rm.cells = mc) (hrs : rm.slots = ms) (hR : rm.frames + 1 ≤ R.frames ∧ 8 + (maxL + 11) + rm.locals ≤ R.locals) :
    va_CN R s args own index y host bytes maxL ret (.code y bytes maxL ret :: wA) rm mc ms n ∧ (Cond.instanceMethod y).before args s = true ∧ (Cond.selects C y y).before args s = true :=
  ⟨va_cnB n hts (gk_good (gk_cons h4)) rfl hrc hrs (va_Nw.of rfl (hts _ h1)) (hts _ h3) hd hR, hts _ h2, hts _ h5⟩
end
theorem w_0 : Cond.constant "BreakPlaces" 134 1114111 ∈ wA := wA_1 (i := 224) rfl rfl
theorem w_1 : Cond.methodLink "BreakPlaces" 135 y_isCharacter ∈ wA := wA_1 (i := 221) rfl rfl
theorem w_2 : Cond.static y_isCharacter ∈ wA := wA_1 (i := 222) rfl rfl
theorem w_3 : Cond.initialized "BreakPlaces" ∈ wA := wA_1 (i := 1) rfl rfl
theorem w_4 : Cond.constantLong "BreakPlaces" 235 384 ∈ wA := wA_1 (i := 161) rfl rfl
theorem w_5 : Cond.methodLink "BreakPlaces" 130 y_isIn ∈ wA := wA_1 (i := 147) rfl rfl
theorem w_6 : Cond.static y_isIn ∈ wA := wA_1 (i := 148) rfl rfl
theorem w_7 : Cond.constantLong "BreakPlaces" 204 71532544 ∈ wA := wA_1 (i := 166) rfl rfl
theorem w_8 : Cond.constantLong "BreakPlaces" 202 10240 ∈ wA := wA_1 (i := 165) rfl rfl
theorem w_9 : Cond.constantLong "BreakPlaces" 206 98304 ∈ wA := wA_1 (i := 170) rfl rfl
theorem w_10 : Cond.constantLong "BreakPlaces" 211 402653184 ∈ wA := wA_1 (i := 178) rfl rfl
theorem w_11 : Cond.constantLong "BreakPlaces" 213 3758096384 ∈ wA := wA_1 (i := 179) rfl rfl
theorem w_12 : Cond.constantLong "BreakPlaces" 215 50331648 ∈ wA := wA_1 (i := 180) rfl rfl
theorem w_13 : Cond.constantLong "BreakPlaces" 217 8486912 ∈ wA := wA_1 (i := 181) rfl rfl
theorem w_14 : Cond.constantLong "BreakPlaces" 219 79699968 ∈ wA := wA_1 (i := 182) rfl rfl
theorem w_15 : Cond.constantLong "BreakPlaces" 221 133143986176 ∈ wA := wA_1 (i := 186) rfl rfl
theorem v_P_0 : Cond.laysFinal "BreakPlaces" "BreakPlaces" "text" "[I" ∈ wA := wA_1 (i := 86) rfl rfl
theorem v_P_1 : Cond.laysFinal "BreakPlaces" "BreakPlaces" "classes" "[I" ∈ wA := wA_1 (i := 88) rfl rfl
theorem v_P_2 : Cond.laysFinal "BreakPlaces" "BreakPlaces" "rules" "[I" ∈ wA := wA_1 (i := 90) rfl rfl
theorem v_P_3 : Cond.laysFinal "BreakPlaces" "BreakPlaces" "given" "[I" ∈ wA := wA_1 (i := 92) rfl rfl
theorem v_P_4 : Cond.laysFinal "BreakPlaces" "BreakPlaces" "classRanges" "LBreakPlaces$Ranges;" ∈ wA := wA_1 (i := 94) rfl rfl
theorem v_P_5 : Cond.laysFinal "BreakPlaces" "BreakPlaces" "wide" "LBreakPlaces$Ranges;" ∈ wA := wA_1 (i := 96) rfl rfl
theorem v_P_6 : Cond.laysFinal "BreakPlaces" "BreakPlaces" "pictures" "LBreakPlaces$Ranges;" ∈ wA := wA_1 (i := 98) rfl rfl
theorem v_P_7 : Cond.laysFinal "BreakPlaces" "BreakPlaces" "before" "LBreakPlaces$Before;" ∈ wA := wA_1 (i := 100) rfl rfl
theorem v_P_8 : Cond.lays "BreakPlaces" "BreakPlaces" "length" "I" ∈ wA := wA_1 (i := 102) rfl rfl
theorem v_P_9 : Cond.lays "BreakPlaces" "BreakPlaces" "isLoose" "Z" ∈ wA := wA_1 (i := 104) rfl rfl
theorem v_P_10 : Cond.lays "BreakPlaces" "BreakPlaces" "known" "I" ∈ wA := wA_1 (i := 106) rfl rfl
theorem i_P : ∀ w ∈ u_ws R_P F_P 11, w ∈ wA := gk_all [u_lay R_P F_P 0, u_lay R_P F_P 1, u_lay R_P F_P 2, u_lay R_P F_P 3, u_lay R_P F_P 4, u_lay R_P F_P 5, u_lay R_P F_P 6, u_lay R_P F_P 7, u_lay R_P F_P 8, u_lay R_P F_P 9, u_lay R_P F_P 10] rfl ⟨v_P_0, v_P_1, v_P_2, v_P_3, v_P_4, v_P_5, v_P_6, v_P_7, v_P_8, v_P_9, v_P_10, trivial⟩
theorem v_R_0 : Cond.laysFinal "BreakPlaces$Ranges" "BreakPlaces$Ranges" "firsts" "[I" ∈ wA := wA_1 (i := 30) rfl rfl
theorem v_R_1 : Cond.laysFinal "BreakPlaces$Ranges" "BreakPlaces$Ranges" "lasts" "[I" ∈ wA := wA_1 (i := 32) rfl rfl
theorem v_R_2 : Cond.laysFinal "BreakPlaces$Ranges" "BreakPlaces$Ranges" "values" "[I" ∈ wA := wA_1 (i := 34) rfl rfl
theorem v_R_3 : Cond.lays "BreakPlaces$Ranges" "BreakPlaces$Ranges" "many" "I" ∈ wA := wA_1 (i := 36) rfl rfl
theorem i_R : ∀ w ∈ u_ws R_R F_R 4, w ∈ wA := gk_all [u_lay R_R F_R 0, u_lay R_R F_R 1, u_lay R_R F_R 2, u_lay R_R F_R 3] rfl ⟨v_R_0, v_R_1, v_R_2, v_R_3, trivial⟩
theorem v_B_0 : Cond.lays "BreakPlaces$Before" "BreakPlaces$Before" "last" "I" ∈ wA := wA_1 (i := 62) rfl rfl
theorem v_B_1 : Cond.lays "BreakPlaces$Before" "BreakPlaces$Before" "a" "I" ∈ wA := wA_1 (i := 64) rfl rfl
theorem v_B_2 : Cond.lays "BreakPlaces$Before" "BreakPlaces$Before" "characterA" "I" ∈ wA := wA_1 (i := 66) rfl rfl
theorem v_B_3 : Cond.lays "BreakPlaces$Before" "BreakPlaces$Before" "beforeA" "I" ∈ wA := wA_1 (i := 68) rfl rfl
theorem v_B_4 : Cond.lays "BreakPlaces$Before" "BreakPlaces$Before" "solid" "I" ∈ wA := wA_1 (i := 70) rfl rfl
theorem v_B_5 : Cond.lays "BreakPlaces$Before" "BreakPlaces$Before" "oddRow" "Z" ∈ wA := wA_1 (i := 72) rfl rfl
theorem i_B : ∀ w ∈ u_ws R_B F_B 6, w ∈ wA := gk_all [u_lay R_B F_B 0, u_lay R_B F_B 1, u_lay R_B F_B 2, u_lay R_B F_B 3, u_lay R_B F_B 4, u_lay R_B F_B 5] rfl ⟨v_B_0, v_B_1, v_B_2, v_B_3, v_B_4, v_B_5, trivial⟩
theorem k_isCharacter : Cond.code y_isCharacter b_isCharacter 1 (some .boolean) ∈ wA := wA_1 (i := 223) rfl rfl
theorem e_isCharacter : y_isCharacter.cls ≠ "java/lang/invoke/MethodHandle" ∧ y_isCharacter.cls ≠ "java/lang/invoke/VarHandle" ∧ (parseMethodDescriptor y_isCharacter.desc).map (fun d => d.parameters.length) = some 1 := by decide +kernel
theorem k_isIn : Cond.code y_isIn b_isIn 3 (some .boolean) ∈ wA := wA_1 (i := 149) rfl rfl
theorem e_isIn : y_isIn.cls ≠ "java/lang/invoke/MethodHandle" ∧ y_isIn.cls ≠ "java/lang/invoke/VarHandle" ∧ (parseMethodDescriptor y_isIn.desc).map (fun d => d.parameters.length) = some 2 := by decide +kernel
end
section
-- the worlds: one block of ranges, what stands before a place, the whole object
abbrev gk_T (cI cL : ClassId) : List (ClassId × FieldType) := [(cI, .int), (cL, .long)]
def wd_R (cI : ClassId) (N a0 a1 a2 a3 : Nat) (fa la va : Nat → Int32) (mn : Int32) : va_W := [(a0, .inr (1, [.ref a1, .ref a2, .ref a3, .int mn])), (a1, .inl (cI, N, .inl fa)), (a2, .inl (cI, N, .inl la)), (a3, .inl (cI, N, .inl va))]
def wd_B (a0 : Nat) (b1 b2 b3 b4 b5 b6 : Int32) : va_W := [(a0, .inr (2, [.int b1, .int b2, .int b3, .int b4, .int b5, .int b6]))]
def wd_P (cI : ClassId) (h : Nat → Nat) (tx cs rl gv fa1 la1 va1 : Nat → Int32) (mn1 : Int32) (fa2 la2 va2 : Nat → Int32) (mn2 : Int32) (fa3 la3 va3 : Nat → Int32) (mn3 b1 b2 b3 b4 b5 b6 ln lo kn : Int32) : va_W :=
  [(h 0, .inr (0, [.ref (h 1), .ref (h 2), .ref (h 3), .ref (h 4), .ref (h 5), .ref (h 9), .ref (h 13), .ref (h 17), .int ln, .int lo, .int kn])),
   (h 1, .inl (cI, 2000, .inl tx)), (h 2, .inl (cI, 2000, .inl cs)), (h 3, .inl (cI, 2000, .inl rl)), (h 4, .inl (cI, 5, .inl gv)),
   (h 5, .inr (1, [.ref (h 6), .ref (h 7), .ref (h 8), .int mn1])), (h 6, .inl (cI, 100, .inl fa1)), (h 7, .inl (cI, 100, .inl la1)), (h 8, .inl (cI, 100, .inl va1)),
   (h 9, .inr (1, [.ref (h 10), .ref (h 11), .ref (h 12), .int mn2])), (h 10, .inl (cI, 40, .inl fa2)), (h 11, .inl (cI, 40, .inl la2)), (h 12, .inl (cI, 40, .inl va2)),
   (h 13, .inr (1, [.ref (h 14), .ref (h 15), .ref (h 16), .int mn3])), (h 14, .inl (cI, 40, .inl fa3)), (h 15, .inl (cI, 40, .inl la3)), (h 16, .inl (cI, 40, .inl va3)),
   (h 17, .inr (2, [.int b1, .int b2, .int b3, .int b4, .int b5, .int b6]))]
end
section
def mm_isIn (x0 : Int32) (x1 : Int64) : Int32 := if x0 < 0 then 0 else (if (lg_cmp ((x1 >>> (x0.toInt64 &&& 63)) &&& 1) 0) = 0 then 0 else 1)
def rm_isIn : Room := { frames := 0, cells := 0, slots := 0, locals := 0 }
set_option maxHeartbeats 4000000 in
set_option maxRecDepth 100000 in
theorem c_isIn (l : Launch) (D : va_G) (cI cL : ClassId) (x0 : Int32) (x1 : Int64) : gk_I l y_isIn (.code y_isIn b_isIn 3 (some .boolean) :: wA) rm_isIn D vwCl (gk_T cI cL) [.int x0, .long x1] [] (fun (r : Int32) (_ : Unit) => r = mm_isIn x0 x1) (fun (_ : Unit) => []) 0 0 := by
  refine gk_I.of (by decide) (Nat.le_of_ble_eq_true rfl) ?_
  intro p e s m below meth c A ls Q H locs hx hb hml hown hts hW hl X
  have hl : lv_has ls 3 [(0, .int x0), (1, .long x1)] := hl
  obtain ⟨tgt, heq⟩ : ∃ t, mm_isIn x0 x1 = t := ⟨_, rfl⟩
  rw [heq] at X
  rw [mm_isIn] at heq
  refine lv_iload_n hx hb d_isIn_0 rfl (lv_at hl 0 rfl) ?_
  refine lv_if_lt (tgt := 18) hx hb d_isIn_1 (by decide) (fun c_1 => ?_) (fun c_1 => ?_)
  · rw [if_pos c_1] at heq
    refine lv_iconst (v := 0) hx hb d_isIn_18 (by decide) ?_
    exact X _ () H locs 0 0 19 ls heq hW d_isIn_19 rfl (Nat.le_of_ble_eq_true rfl) (Nat.le_of_ble_eq_true rfl)
  · rw [if_neg c_1] at heq
    refine lv_lload_n hx hb d_isIn_4 rfl (lv_at hl 1 rfl) ?_
    refine lv_iload_n hx hb d_isIn_5 rfl (lv_at hl 0 rfl) ?_
    refine lv_lshr (v := x1 >>> (x0.toInt64 &&& 63)) hx hb d_isIn_6 rfl ?_
    refine lv_lconst (v := 1) hx hb d_isIn_7 (by decide) ?_
    refine lv_land hx hb d_isIn_8 ?_
    refine lv_lconst (v := 0) hx hb d_isIn_9 (by decide) ?_
    refine W.lcmp hx hb d_isIn_10 ?_
    refine lv_if_eq (tgt := 18) hx hb d_isIn_11 (by decide) (fun c_2 => ?_) (fun c_2 => ?_)
    · rw [if_pos c_2] at heq
      refine lv_iconst (v := 0) hx hb d_isIn_18 (by decide) ?_
      exact X _ () H locs 0 0 19 ls heq hW d_isIn_19 rfl (Nat.le_of_ble_eq_true rfl) (Nat.le_of_ble_eq_true rfl)
    · rw [if_neg c_2] at heq
      refine lv_iconst (v := 1) hx hb d_isIn_14 (by decide) ?_
      refine lv_goto (tgt := 19) hx hb d_isIn_15 (by decide) ?_
      exact X _ () H locs 0 0 19 ls heq hW d_isIn_19 rfl (Nat.le_of_ble_eq_true rfl) (Nat.le_of_ble_eq_true rfl)
def mm_isCharacter (x0 : Int32) : Int32 := if x0 < 0 then 0 else (if 1114111 < x0 then 0 else 1)
def rm_isCharacter : Room := { frames := 0, cells := 0, slots := 0, locals := 0 }
set_option maxHeartbeats 4000000 in
set_option maxRecDepth 100000 in
theorem c_isCharacter (l : Launch) (D : va_G) (cI cL : ClassId) (x0 : Int32) : gk_I l y_isCharacter (.code y_isCharacter b_isCharacter 1 (some .boolean) :: wA) rm_isCharacter D vwCl (gk_T cI cL) [.int x0] [] (fun (r : Int32) (_ : Unit) => r = mm_isCharacter x0) (fun (_ : Unit) => []) 0 0 := by
  refine gk_I.of (by decide) (Nat.le_of_ble_eq_true rfl) ?_
  intro p e s m below meth c A ls Q H locs hx hb hml hown hts hW hl X
  have hl : lv_has ls 1 [(0, .int x0)] := hl
  obtain ⟨tgt, heq⟩ : ∃ t, mm_isCharacter x0 = t := ⟨_, rfl⟩
  rw [heq] at X
  rw [mm_isCharacter] at heq
  refine lv_iload_n hx hb d_isCharacter_0 rfl (lv_at hl 0 rfl) ?_
  refine lv_if_lt (tgt := 14) hx hb d_isCharacter_1 (by decide) (fun c_1 => ?_) (fun c_1 => ?_)
  · rw [if_pos c_1] at heq
    refine lv_iconst (v := 0) hx hb d_isCharacter_14 (by decide) ?_
    exact X _ () H locs 0 0 15 ls heq hW d_isCharacter_15 rfl (Nat.le_of_ble_eq_true rfl) (Nat.le_of_ble_eq_true rfl)
  · rw [if_neg c_1] at heq
    refine lv_iload_n hx hb d_isCharacter_4 rfl (lv_at hl 0 rfl) ?_
    refine lv_ldc (v := 1114111) hx hb hown (hts _ w_0) d_isCharacter_5 ?_
    refine lv_icmp_gt (tgt := 14) hx hb d_isCharacter_7 (by decide) (fun c_2 => ?_) (fun c_2 => ?_)
    · rw [if_pos c_2] at heq
      refine lv_iconst (v := 0) hx hb d_isCharacter_14 (by decide) ?_
      exact X _ () H locs 0 0 15 ls heq hW d_isCharacter_15 rfl (Nat.le_of_ble_eq_true rfl) (Nat.le_of_ble_eq_true rfl)
    · rw [if_neg c_2] at heq
      refine lv_iconst (v := 1) hx hb d_isCharacter_10 (by decide) ?_
      refine lv_goto (tgt := 15) hx hb d_isCharacter_11 (by decide) ?_
      exact X _ () H locs 0 0 15 ls heq hW d_isCharacter_15 rfl (Nat.le_of_ble_eq_true rfl) (Nat.le_of_ble_eq_true rfl)
def mm_isRange (x0 x1 : Int32) : Int32 := if (mm_isCharacter x0) = 0 then 0 else (if (mm_isCharacter x1) = 0 then 0 else (if x1 < x0 then 0 else 1))
def rm_isRange : Room := { frames := 1, cells := 0, slots := 0, locals := 20 }
set_option maxHeartbeats 4000000 in
set_option maxRecDepth 100000 in
theorem c_isRange (l : Launch) (D : va_G) (cI cL : ClassId) (x0 x1 : Int32) : gk_I l y_isRange (.code y_isRange b_isRange 2 (some .boolean) :: wA) rm_isRange D vwCl (gk_T cI cL) [.int x0, .int x1] [] (fun (r : Int32) (_ : Unit) => r = mm_isRange x0 x1) (fun (_ : Unit) => []) 0 0 := by
  refine gk_I.of (by decide) (Nat.le_of_ble_eq_true rfl) ?_
  intro p e s m below meth c A ls Q H locs hx hb hml hown hts hW hl X
  have hl : lv_has ls 2 [(0, .int x0), (1, .int x1)] := hl
  obtain ⟨tgt, heq⟩ : ∃ t, mm_isRange x0 x1 = t := ⟨_, rfl⟩
  rw [heq] at X
  rw [mm_isRange] at heq
  refine lv_iload_n hx hb d_isRange_0 rfl (lv_at hl 0 rfl) ?_
  refine gk_goR hW [] rfl (va_runS (As := [.int x0]) (rest := []) ⟨hx, hb, hml, hown, hts⟩ (c_isCharacter l D cI cL x0 _) (gk_cwS hts w_1 w_2 w_3 k_isCharacter rfl e_isCharacter rfl rfl ⟨Nat.le_of_ble_eq_true rfl, Nat.le_of_ble_eq_true rfl⟩) (gk_pre hW [] rfl rfl) rfl rfl hl.1 rfl (lv_room (Nat.le_of_ble_eq_true rfl)) d_isRange_1 ⟨Nat.le_of_ble_eq_true rfl, Nat.le_of_ble_eq_true rfl⟩) (fun H locs hW => ?_)
  refine lv_if_eq (tgt := 23) hx hb d_isRange_4 (by decide) (fun c_1 => ?_) (fun c_1 => ?_)
  · rw [if_pos c_1] at heq
    refine lv_iconst (v := 0) hx hb d_isRange_23 (by decide) ?_
    exact X _ () H locs 0 0 24 ls heq hW d_isRange_24 rfl (Nat.le_of_ble_eq_true rfl) (Nat.le_of_ble_eq_true rfl)
  · rw [if_neg c_1] at heq
    refine lv_iload_n hx hb d_isRange_7 rfl (lv_at hl 1 rfl) ?_
    refine gk_goR hW [] rfl (va_runS (As := [.int x1]) (rest := []) ⟨hx, hb, hml, hown, hts⟩ (c_isCharacter l D cI cL x1 _) (gk_cwS hts w_1 w_2 w_3 k_isCharacter rfl e_isCharacter rfl rfl ⟨Nat.le_of_ble_eq_true rfl, Nat.le_of_ble_eq_true rfl⟩) (gk_pre hW [] rfl rfl) rfl rfl hl.1 rfl (lv_room (Nat.le_of_ble_eq_true rfl)) d_isRange_8 ⟨Nat.le_of_ble_eq_true rfl, Nat.le_of_ble_eq_true rfl⟩) (fun H locs hW => ?_)
    refine lv_if_eq (tgt := 23) hx hb d_isRange_11 (by decide) (fun c_2 => ?_) (fun c_2 => ?_)
    · rw [if_pos c_2] at heq
      refine lv_iconst (v := 0) hx hb d_isRange_23 (by decide) ?_
      exact X _ () H locs 0 0 24 ls heq hW d_isRange_24 rfl (Nat.le_of_ble_eq_true rfl) (Nat.le_of_ble_eq_true rfl)
    · rw [if_neg c_2] at heq
      refine lv_iload_n hx hb d_isRange_14 rfl (lv_at hl 0 rfl) ?_
      refine lv_iload_n hx hb d_isRange_15 rfl (lv_at hl 1 rfl) ?_
      refine lv_icmp_gt (tgt := 23) hx hb d_isRange_16 (by decide) (fun c_3 => ?_) (fun c_3 => ?_)
      · rw [if_pos c_3] at heq
        refine lv_iconst (v := 0) hx hb d_isRange_23 (by decide) ?_
        exact X _ () H locs 0 0 24 ls heq hW d_isRange_24 rfl (Nat.le_of_ble_eq_true rfl) (Nat.le_of_ble_eq_true rfl)
      · rw [if_neg c_3] at heq
        refine lv_iconst (v := 1) hx hb d_isRange_19 (by decide) ?_
        refine lv_goto (tgt := 24) hx hb d_isRange_20 (by decide) ?_
        exact X _ () H locs 0 0 24 ls heq hW d_isRange_24 rfl (Nat.le_of_ble_eq_true rfl) (Nat.le_of_ble_eq_true rfl)
def mm_standsFor (x0 : Int32) : Int32 := if (mm_isIn x0 384) = 0 then x0 else 27
def rm_standsFor : Room := { frames := 1, cells := 0, slots := 0, locals := 22 }
set_option maxHeartbeats 4000000 in
set_option maxRecDepth 100000 in
theorem c_standsFor (l : Launch) (D : va_G) (cI cL : ClassId) (x0 : Int32) : gk_I l y_standsFor (.code y_standsFor b_standsFor 1 (some .int) :: wA) rm_standsFor D vwCl (gk_T cI cL) [.int x0] [] (fun (r : Int32) (_ : Unit) => r = mm_standsFor x0) (fun (_ : Unit) => []) 0 0 := by
  refine gk_I.of (by decide) (Nat.le_of_ble_eq_true rfl) ?_
  intro p e s m below meth c A ls Q H locs hx hb hml hown hts hW hl X
  have hl : lv_has ls 1 [(0, .int x0)] := hl
  obtain ⟨tgt, heq⟩ : ∃ t, mm_standsFor x0 = t := ⟨_, rfl⟩
  rw [heq] at X
  rw [mm_standsFor] at heq
  refine lv_iload_n hx hb d_standsFor_0 rfl (lv_at hl 0 rfl) ?_
  refine lv_ldc2 (v := 384) hx hb hown (hts _ w_4) d_standsFor_1 ?_
  refine gk_goR hW [] rfl (va_runS (As := [.int x0, .long 384]) (rest := []) ⟨hx, hb, hml, hown, hts⟩ (c_isIn l D cI cL x0 384 _) (gk_cwS hts w_5 w_6 w_3 k_isIn rfl e_isIn rfl rfl ⟨Nat.le_of_ble_eq_true rfl, Nat.le_of_ble_eq_true rfl⟩) (gk_pre hW [] rfl rfl) rfl rfl hl.1 rfl (lv_room (Nat.le_of_ble_eq_true rfl)) d_standsFor_4 ⟨Nat.le_of_ble_eq_true rfl, Nat.le_of_ble_eq_true rfl⟩) (fun H locs hW => ?_)
  refine lv_if_eq (tgt := 15) hx hb d_standsFor_7 (by decide) (fun c_1 => ?_) (fun c_1 => ?_)
  · rw [if_pos c_1] at heq
    refine lv_iload_n hx hb d_standsFor_15 rfl (lv_at hl 0 rfl) ?_
    exact X _ () H locs 0 0 16 ls heq hW d_standsFor_16 rfl (Nat.le_of_ble_eq_true rfl) (Nat.le_of_ble_eq_true rfl)
  · rw [if_neg c_1] at heq
    refine lv_bipush (v := 27) hx hb d_standsFor_10 (by decide) ?_
    refine lv_goto (tgt := 16) hx hb d_standsFor_12 (by decide) ?_
    exact X _ () H locs 0 0 16 ls heq hW d_standsFor_16 rfl (Nat.le_of_ble_eq_true rfl) (Nat.le_of_ble_eq_true rfl)
def mm_ruleOfGlue_48 (x0 x1 : Int32) : Int32 := if (mm_isIn x1 71532544) = 0 then 0 else 130
def mm_ruleOfGlue (x0 x1 : Int32) : Int32 := if x0 = 6 then 110 else (if x1 = 6 then 110 else (if x0 = 9 then 120 else (if x1 = 9 then (if x0 = 4 then (mm_ruleOfGlue_48 x0 x1) else (if (mm_isIn x0 10240) = 0 then 121 else (mm_ruleOfGlue_48 x0 x1))) else (mm_ruleOfGlue_48 x0 x1))))
def rm_ruleOfGlue : Room := { frames := 1, cells := 0, slots := 0, locals := 22 }
set_option maxHeartbeats 4000000 in
set_option maxRecDepth 100000 in
theorem c_ruleOfGlue (l : Launch) (D : va_G) (cI cL : ClassId) (x0 x1 : Int32) : gk_I l y_ruleOfGlue (.code y_ruleOfGlue b_ruleOfGlue 2 (some .int) :: wA) rm_ruleOfGlue D vwCl (gk_T cI cL) [.int x0, .int x1] [] (fun (r : Int32) (_ : Unit) => r = mm_ruleOfGlue x0 x1) (fun (_ : Unit) => []) 0 0 := by
  refine gk_I.of (by decide) (Nat.le_of_ble_eq_true rfl) ?_
  intro p e s m below meth c A ls Q H locs hx hb hml hown hts hW hl X
  have hl : lv_has ls 2 [(0, .int x0), (1, .int x1)] := hl
  obtain ⟨tgt, heq⟩ : ∃ t, mm_ruleOfGlue x0 x1 = t := ⟨_, rfl⟩
  rw [heq] at X
  rw [mm_ruleOfGlue] at heq
  have K48 : ∀ (H : Heap) (locs : List Loc) (ls : Array Slot), mm_ruleOfGlue_48 x0 x1 = tgt → gk_W D vwCl (gk_T cI cL) s A H locs [] → lv_has ls 2 [(0, .int x0), (1, .int x1)] → W p l e rm_ruleOfGlue s m [.int x0, .int x1].toArray below meth c H locs 0 0 Q (F0 m 48 ls []) := by
    intro  H locs ls heq hW hl
    rw [mm_ruleOfGlue_48] at heq
    refine lv_iload_n hx hb d_ruleOfGlue_48 rfl (lv_at hl 1 rfl) ?_
    refine lv_ldc2 (v := 71532544) hx hb hown (hts _ w_7) d_ruleOfGlue_49 ?_
    refine gk_goR hW [] rfl (va_runS (As := [.int x1, .long 71532544]) (rest := []) ⟨hx, hb, hml, hown, hts⟩ (c_isIn l D cI cL x1 71532544 _) (gk_cwS hts w_5 w_6 w_3 k_isIn rfl e_isIn rfl rfl ⟨Nat.le_of_ble_eq_true rfl, Nat.le_of_ble_eq_true rfl⟩) (gk_pre hW [] rfl rfl) rfl rfl hl.1 rfl (lv_room (Nat.le_of_ble_eq_true rfl)) d_ruleOfGlue_52 ⟨Nat.le_of_ble_eq_true rfl, Nat.le_of_ble_eq_true rfl⟩) (fun H locs hW => ?_)
    refine lv_if_eq (tgt := 64) hx hb d_ruleOfGlue_55 (by decide) (fun c_1 => ?_) (fun c_1 => ?_)
    · rw [if_pos c_1] at heq
      refine lv_iconst (v := 0) hx hb d_ruleOfGlue_64 (by decide) ?_
      exact X _ () H locs 0 0 65 ls heq hW d_ruleOfGlue_65 rfl (Nat.le_of_ble_eq_true rfl) (Nat.le_of_ble_eq_true rfl)
    · rw [if_neg c_1] at heq
      refine lv_sipush (v := 130) hx hb d_ruleOfGlue_58 (by decide) ?_
      refine lv_goto (tgt := 65) hx hb d_ruleOfGlue_61 (by decide) ?_
      exact X _ () H locs 0 0 65 ls heq hW d_ruleOfGlue_65 rfl (Nat.le_of_ble_eq_true rfl) (Nat.le_of_ble_eq_true rfl)
  refine lv_iload_n hx hb d_ruleOfGlue_0 rfl (lv_at hl 0 rfl) ?_
  refine lv_bipush (v := 6) hx hb d_ruleOfGlue_1 (by decide) ?_
  refine lv_icmp_eq (tgt := 12) hx hb d_ruleOfGlue_3 (by decide) (fun c_2 => ?_) (fun c_2 => ?_)
  · rw [if_pos c_2] at heq
    refine lv_bipush (v := 110) hx hb d_ruleOfGlue_12 (by decide) ?_
    exact X _ () H locs 0 0 14 ls heq hW d_ruleOfGlue_14 rfl (Nat.le_of_ble_eq_true rfl) (Nat.le_of_ble_eq_true rfl)
  · rw [if_neg c_2] at heq
    refine lv_iload_n hx hb d_ruleOfGlue_6 rfl (lv_at hl 1 rfl) ?_
    refine lv_bipush (v := 6) hx hb d_ruleOfGlue_7 (by decide) ?_
    refine lv_icmp_ne (tgt := 15) hx hb d_ruleOfGlue_9 (by decide) (fun c_3 => ?_) (fun c_3 => ?_)
    · rw [if_neg c_3] at heq
      refine lv_iload_n hx hb d_ruleOfGlue_15 rfl (lv_at hl 0 rfl) ?_
      refine lv_bipush (v := 9) hx hb d_ruleOfGlue_16 (by decide) ?_
      refine lv_icmp_ne (tgt := 24) hx hb d_ruleOfGlue_18 (by decide) (fun c_4 => ?_) (fun c_4 => ?_)
      · rw [if_neg c_4] at heq
        refine lv_iload_n hx hb d_ruleOfGlue_24 rfl (lv_at hl 1 rfl) ?_
        refine lv_bipush (v := 9) hx hb d_ruleOfGlue_25 (by decide) ?_
        refine lv_icmp_ne (tgt := 48) hx hb d_ruleOfGlue_27 (by decide) (fun c_5 => ?_) (fun c_5 => ?_)
        · rw [if_neg c_5] at heq
          exact K48  H locs ls heq hW (lv_sub hl [0, 1] rfl)
        · rw [if_pos c_5] at heq
          refine lv_iload_n hx hb d_ruleOfGlue_30 rfl (lv_at hl 0 rfl) ?_
          refine lv_iconst (v := 4) hx hb d_ruleOfGlue_31 (by decide) ?_
          refine lv_icmp_eq (tgt := 48) hx hb d_ruleOfGlue_32 (by decide) (fun c_6 => ?_) (fun c_6 => ?_)
          · rw [if_pos c_6] at heq
            exact K48  H locs ls heq hW (lv_sub hl [0, 1] rfl)
          · rw [if_neg c_6] at heq
            refine lv_iload_n hx hb d_ruleOfGlue_35 rfl (lv_at hl 0 rfl) ?_
            refine lv_ldc2 (v := 10240) hx hb hown (hts _ w_8) d_ruleOfGlue_36 ?_
            refine gk_goR hW [] rfl (va_runS (As := [.int x0, .long 10240]) (rest := []) ⟨hx, hb, hml, hown, hts⟩ (c_isIn l D cI cL x0 10240 _) (gk_cwS hts w_5 w_6 w_3 k_isIn rfl e_isIn rfl rfl ⟨Nat.le_of_ble_eq_true rfl, Nat.le_of_ble_eq_true rfl⟩) (gk_pre hW [] rfl rfl) rfl rfl hl.1 rfl (lv_room (Nat.le_of_ble_eq_true rfl)) d_ruleOfGlue_39 ⟨Nat.le_of_ble_eq_true rfl, Nat.le_of_ble_eq_true rfl⟩) (fun H locs hW => ?_)
            refine lv_if_ne (tgt := 48) hx hb d_ruleOfGlue_42 (by decide) (fun c_7 => ?_) (fun c_7 => ?_)
            · rw [if_neg c_7] at heq
              exact K48  H locs ls heq hW (lv_sub hl [0, 1] rfl)
            · rw [if_pos c_7] at heq
              refine lv_bipush (v := 121) hx hb d_ruleOfGlue_45 (by decide) ?_
              exact X _ () H locs 0 0 47 ls heq hW d_ruleOfGlue_47 rfl (Nat.le_of_ble_eq_true rfl) (Nat.le_of_ble_eq_true rfl)
      · rw [if_pos c_4] at heq
        refine lv_bipush (v := 120) hx hb d_ruleOfGlue_21 (by decide) ?_
        exact X _ () H locs 0 0 23 ls heq hW d_ruleOfGlue_23 rfl (Nat.le_of_ble_eq_true rfl) (Nat.le_of_ble_eq_true rfl)
    · rw [if_pos c_3] at heq
      refine lv_bipush (v := 110) hx hb d_ruleOfGlue_12 (by decide) ?_
      exact X _ () H locs 0 0 14 ls heq hW d_ruleOfGlue_14 rfl (Nat.le_of_ble_eq_true rfl) (Nat.le_of_ble_eq_true rfl)
def mm_ruleAcrossSpaces_46 (x0 x1 : Int32) : Int32 := if x0 = 10 then (if x1 = 10 then 170 else 0) else 0
def mm_ruleAcrossSpaces_26 (x0 x1 : Int32) : Int32 := if (mm_isIn x0 98304) = 0 then (mm_ruleAcrossSpaces_46 x0 x1) else (if x1 = 19 then 160 else (mm_ruleAcrossSpaces_46 x0 x1))
def mm_ruleAcrossSpaces (x0 x1 : Int32) : Int32 := if x0 = 20 then 140 else (if x0 = 21 then (if x1 = 20 then 150 else (mm_ruleAcrossSpaces_26 x0 x1)) else (mm_ruleAcrossSpaces_26 x0 x1))
def rm_ruleAcrossSpaces : Room := { frames := 1, cells := 0, slots := 0, locals := 22 }
set_option maxHeartbeats 4000000 in
set_option maxRecDepth 100000 in
theorem c_ruleAcrossSpaces (l : Launch) (D : va_G) (cI cL : ClassId) (x0 x1 : Int32) : gk_I l y_ruleAcrossSpaces (.code y_ruleAcrossSpaces b_ruleAcrossSpaces 2 (some .int) :: wA) rm_ruleAcrossSpaces D vwCl (gk_T cI cL) [.int x0, .int x1] [] (fun (r : Int32) (_ : Unit) => r = mm_ruleAcrossSpaces x0 x1) (fun (_ : Unit) => []) 0 0 := by
  refine gk_I.of (by decide) (Nat.le_of_ble_eq_true rfl) ?_
  intro p e s m below meth c A ls Q H locs hx hb hml hown hts hW hl X
  have hl : lv_has ls 2 [(0, .int x0), (1, .int x1)] := hl
  obtain ⟨tgt, heq⟩ : ∃ t, mm_ruleAcrossSpaces x0 x1 = t := ⟨_, rfl⟩
  rw [heq] at X
  rw [mm_ruleAcrossSpaces] at heq
  have K46 : ∀ (H : Heap) (locs : List Loc) (ls : Array Slot), mm_ruleAcrossSpaces_46 x0 x1 = tgt → gk_W D vwCl (gk_T cI cL) s A H locs [] → lv_has ls 2 [(0, .int x0), (1, .int x1)] → W p l e rm_ruleAcrossSpaces s m [.int x0, .int x1].toArray below meth c H locs 0 0 Q (F0 m 46 ls []) := by
    intro  H locs ls heq hW hl
    rw [mm_ruleAcrossSpaces_46] at heq
    refine lv_iload_n hx hb d_ruleAcrossSpaces_46 rfl (lv_at hl 0 rfl) ?_
    refine lv_bipush (v := 10) hx hb d_ruleAcrossSpaces_47 (by decide) ?_
    refine lv_icmp_ne (tgt := 64) hx hb d_ruleAcrossSpaces_49 (by decide) (fun c_1 => ?_) (fun c_1 => ?_)
    · rw [if_neg c_1] at heq
      refine lv_iconst (v := 0) hx hb d_ruleAcrossSpaces_64 (by decide) ?_
      exact X _ () H locs 0 0 65 ls heq hW d_ruleAcrossSpaces_65 rfl (Nat.le_of_ble_eq_true rfl) (Nat.le_of_ble_eq_true rfl)
    · rw [if_pos c_1] at heq
      refine lv_iload_n hx hb d_ruleAcrossSpaces_52 rfl (lv_at hl 1 rfl) ?_
      refine lv_bipush (v := 10) hx hb d_ruleAcrossSpaces_53 (by decide) ?_
      refine lv_icmp_ne (tgt := 64) hx hb d_ruleAcrossSpaces_55 (by decide) (fun c_2 => ?_) (fun c_2 => ?_)
      · rw [if_neg c_2] at heq
        refine lv_iconst (v := 0) hx hb d_ruleAcrossSpaces_64 (by decide) ?_
        exact X _ () H locs 0 0 65 ls heq hW d_ruleAcrossSpaces_65 rfl (Nat.le_of_ble_eq_true rfl) (Nat.le_of_ble_eq_true rfl)
      · rw [if_pos c_2] at heq
        refine lv_sipush (v := 170) hx hb d_ruleAcrossSpaces_58 (by decide) ?_
        refine lv_goto (tgt := 65) hx hb d_ruleAcrossSpaces_61 (by decide) ?_
        exact X _ () H locs 0 0 65 ls heq hW d_ruleAcrossSpaces_65 rfl (Nat.le_of_ble_eq_true rfl) (Nat.le_of_ble_eq_true rfl)
  have K26 : ∀ (H : Heap) (locs : List Loc) (ls : Array Slot), mm_ruleAcrossSpaces_26 x0 x1 = tgt → gk_W D vwCl (gk_T cI cL) s A H locs [] → lv_has ls 2 [(0, .int x0), (1, .int x1)] → W p l e rm_ruleAcrossSpaces s m [.int x0, .int x1].toArray below meth c H locs 0 0 Q (F0 m 26 ls []) := by
    intro  H locs ls heq hW hl
    rw [mm_ruleAcrossSpaces_26] at heq
    refine lv_iload_n hx hb d_ruleAcrossSpaces_26 rfl (lv_at hl 0 rfl) ?_
    refine lv_ldc2 (v := 98304) hx hb hown (hts _ w_9) d_ruleAcrossSpaces_27 ?_
    refine gk_goR hW [] rfl (va_runS (As := [.int x0, .long 98304]) (rest := []) ⟨hx, hb, hml, hown, hts⟩ (c_isIn l D cI cL x0 98304 _) (gk_cwS hts w_5 w_6 w_3 k_isIn rfl e_isIn rfl rfl ⟨Nat.le_of_ble_eq_true rfl, Nat.le_of_ble_eq_true rfl⟩) (gk_pre hW [] rfl rfl) rfl rfl hl.1 rfl (lv_room (Nat.le_of_ble_eq_true rfl)) d_ruleAcrossSpaces_30 ⟨Nat.le_of_ble_eq_true rfl, Nat.le_of_ble_eq_true rfl⟩) (fun H locs hW => ?_)
    refine lv_if_eq (tgt := 46) hx hb d_ruleAcrossSpaces_33 (by decide) (fun c_3 => ?_) (fun c_3 => ?_)
    · rw [if_pos c_3] at heq
      exact K46  H locs ls heq hW (lv_sub hl [0, 1] rfl)
    · rw [if_neg c_3] at heq
      refine lv_iload_n hx hb d_ruleAcrossSpaces_36 rfl (lv_at hl 1 rfl) ?_
      refine lv_bipush (v := 19) hx hb d_ruleAcrossSpaces_37 (by decide) ?_
      refine lv_icmp_ne (tgt := 46) hx hb d_ruleAcrossSpaces_39 (by decide) (fun c_4 => ?_) (fun c_4 => ?_)
      · rw [if_neg c_4] at heq
        exact K46  H locs ls heq hW (lv_sub hl [0, 1] rfl)
      · rw [if_pos c_4] at heq
        refine lv_sipush (v := 160) hx hb d_ruleAcrossSpaces_42 (by decide) ?_
        exact X _ () H locs 0 0 45 ls heq hW d_ruleAcrossSpaces_45 rfl (Nat.le_of_ble_eq_true rfl) (Nat.le_of_ble_eq_true rfl)
  refine lv_iload_n hx hb d_ruleAcrossSpaces_0 rfl (lv_at hl 0 rfl) ?_
  refine lv_bipush (v := 20) hx hb d_ruleAcrossSpaces_1 (by decide) ?_
  refine lv_icmp_ne (tgt := 10) hx hb d_ruleAcrossSpaces_3 (by decide) (fun c_5 => ?_) (fun c_5 => ?_)
  · rw [if_neg c_5] at heq
    refine lv_iload_n hx hb d_ruleAcrossSpaces_10 rfl (lv_at hl 0 rfl) ?_
    refine lv_bipush (v := 21) hx hb d_ruleAcrossSpaces_11 (by decide) ?_
    refine lv_icmp_ne (tgt := 26) hx hb d_ruleAcrossSpaces_13 (by decide) (fun c_6 => ?_) (fun c_6 => ?_)
    · rw [if_neg c_6] at heq
      exact K26  H locs ls heq hW (lv_sub hl [0, 1] rfl)
    · rw [if_pos c_6] at heq
      refine lv_iload_n hx hb d_ruleAcrossSpaces_16 rfl (lv_at hl 1 rfl) ?_
      refine lv_bipush (v := 20) hx hb d_ruleAcrossSpaces_17 (by decide) ?_
      refine lv_icmp_ne (tgt := 26) hx hb d_ruleAcrossSpaces_19 (by decide) (fun c_7 => ?_) (fun c_7 => ?_)
      · rw [if_neg c_7] at heq
        exact K26  H locs ls heq hW (lv_sub hl [0, 1] rfl)
      · rw [if_pos c_7] at heq
        refine lv_sipush (v := 150) hx hb d_ruleAcrossSpaces_22 (by decide) ?_
        exact X _ () H locs 0 0 25 ls heq hW d_ruleAcrossSpaces_25 rfl (Nat.le_of_ble_eq_true rfl) (Nat.le_of_ble_eq_true rfl)
  · rw [if_pos c_5] at heq
    refine lv_sipush (v := 140) hx hb d_ruleAcrossSpaces_6 (by decide) ?_
    exact X _ () H locs 0 0 9 ls heq hW d_ruleAcrossSpaces_9 rfl (Nat.le_of_ble_eq_true rfl) (Nat.le_of_ble_eq_true rfl)
def mm_ruleOfNumbers_166 (x0 x1 : Int32) : Int32 := if (mm_isIn x0 79699968) = 0 then 0 else (if x1 = 23 then 250 else 0)
def mm_ruleOfNumbers_140 (x0 x1 : Int32) : Int32 := if (mm_isIn x0 50331648) = 0 then (mm_ruleOfNumbers_166 x0 x1) else (if x1 = 20 then 250 else (if x1 = 23 then 250 else (mm_ruleOfNumbers_166 x0 x1)))
def mm_ruleOfNumbers_116 (x0 x1 : Int32) : Int32 := if (mm_isIn x0 8486912) = 0 then (mm_ruleOfNumbers_140 x0 x1) else (if (mm_isIn x1 50331648) = 0 then (mm_ruleOfNumbers_140 x0 x1) else 250)
def mm_ruleOfNumbers_92 (x0 x1 : Int32) : Int32 := if (mm_isIn x0 402653184) = 0 then (mm_ruleOfNumbers_116 x0 x1) else (if (mm_isIn x1 50331648) = 0 then (mm_ruleOfNumbers_116 x0 x1) else 240)
def mm_ruleOfNumbers_72 (x0 x1 : Int32) : Int32 := if (mm_isIn x0 50331648) = 0 then (mm_ruleOfNumbers_92 x0 x1) else (if (mm_isIn x1 402653184) = 0 then (mm_ruleOfNumbers_92 x0 x1) else 240)
def mm_ruleOfNumbers_52 (x0 x1 : Int32) : Int32 := if (mm_isIn x0 3758096384) = 0 then (mm_ruleOfNumbers_72 x0 x1) else (if x1 = 24 then 231 else (mm_ruleOfNumbers_72 x0 x1))
def mm_ruleOfNumbers_36 (x0 x1 : Int32) : Int32 := if x0 = 25 then (if (mm_isIn x1 3758096384) = 0 then (mm_ruleOfNumbers_52 x0 x1) else 231) else (mm_ruleOfNumbers_52 x0 x1)
def mm_ruleOfNumbers_16 (x0 x1 : Int32) : Int32 := if x0 = 23 then (if (mm_isIn x1 402653184) = 0 then (mm_ruleOfNumbers_36 x0 x1) else 230) else (mm_ruleOfNumbers_36 x0 x1)
def mm_ruleOfNumbers (x0 x1 : Int32) : Int32 := if (mm_isIn x0 402653184) = 0 then (mm_ruleOfNumbers_16 x0 x1) else (if x1 = 23 then 230 else (mm_ruleOfNumbers_16 x0 x1))
def rm_ruleOfNumbers : Room := { frames := 1, cells := 0, slots := 0, locals := 22 }
set_option maxHeartbeats 4000000 in
set_option maxRecDepth 100000 in
theorem c_ruleOfNumbers (l : Launch) (D : va_G) (cI cL : ClassId) (x0 x1 : Int32) : gk_I l y_ruleOfNumbers (.code y_ruleOfNumbers b_ruleOfNumbers 2 (some .int) :: wA) rm_ruleOfNumbers D vwCl (gk_T cI cL) [.int x0, .int x1] [] (fun (r : Int32) (_ : Unit) => r = mm_ruleOfNumbers x0 x1) (fun (_ : Unit) => []) 0 0 := by
  refine gk_I.of (by decide) (Nat.le_of_ble_eq_true rfl) ?_
  intro p e s m below meth c A ls Q H locs hx hb hml hown hts hW hl X
  have hl : lv_has ls 2 [(0, .int x0), (1, .int x1)] := hl
  obtain ⟨tgt, heq⟩ : ∃ t, mm_ruleOfNumbers x0 x1 = t := ⟨_, rfl⟩
  rw [heq] at X
  rw [mm_ruleOfNumbers] at heq
  have K166 : ∀ (H : Heap) (locs : List Loc) (ls : Array Slot), mm_ruleOfNumbers_166 x0 x1 = tgt → gk_W D vwCl (gk_T cI cL) s A H locs [] → lv_has ls 2 [(0, .int x0), (1, .int x1)] → W p l e rm_ruleOfNumbers s m [.int x0, .int x1].toArray below meth c H locs 0 0 Q (F0 m 166 ls []) := by
    intro  H locs ls heq hW hl
    rw [mm_ruleOfNumbers_166] at heq
    refine lv_iload_n hx hb d_ruleOfNumbers_166 rfl (lv_at hl 0 rfl) ?_
    refine lv_ldc2 (v := 79699968) hx hb hown (hts _ w_14) d_ruleOfNumbers_167 ?_
    refine gk_goR hW [] rfl (va_runS (As := [.int x0, .long 79699968]) (rest := []) ⟨hx, hb, hml, hown, hts⟩ (c_isIn l D cI cL x0 79699968 _) (gk_cwS hts w_5 w_6 w_3 k_isIn rfl e_isIn rfl rfl ⟨Nat.le_of_ble_eq_true rfl, Nat.le_of_ble_eq_true rfl⟩) (gk_pre hW [] rfl rfl) rfl rfl hl.1 rfl (lv_room (Nat.le_of_ble_eq_true rfl)) d_ruleOfNumbers_170 ⟨Nat.le_of_ble_eq_true rfl, Nat.le_of_ble_eq_true rfl⟩) (fun H locs hW => ?_)
    refine lv_if_eq (tgt := 188) hx hb d_ruleOfNumbers_173 (by decide) (fun c_1 => ?_) (fun c_1 => ?_)
    · rw [if_pos c_1] at heq
      refine lv_iconst (v := 0) hx hb d_ruleOfNumbers_188 (by decide) ?_
      exact X _ () H locs 0 0 189 ls heq hW d_ruleOfNumbers_189 rfl (Nat.le_of_ble_eq_true rfl) (Nat.le_of_ble_eq_true rfl)
    · rw [if_neg c_1] at heq
      refine lv_iload_n hx hb d_ruleOfNumbers_176 rfl (lv_at hl 1 rfl) ?_
      refine lv_bipush (v := 23) hx hb d_ruleOfNumbers_177 (by decide) ?_
      refine lv_icmp_ne (tgt := 188) hx hb d_ruleOfNumbers_179 (by decide) (fun c_2 => ?_) (fun c_2 => ?_)
      · rw [if_neg c_2] at heq
        refine lv_iconst (v := 0) hx hb d_ruleOfNumbers_188 (by decide) ?_
        exact X _ () H locs 0 0 189 ls heq hW d_ruleOfNumbers_189 rfl (Nat.le_of_ble_eq_true rfl) (Nat.le_of_ble_eq_true rfl)
      · rw [if_pos c_2] at heq
        refine lv_sipush (v := 250) hx hb d_ruleOfNumbers_182 (by decide) ?_
        refine lv_goto (tgt := 189) hx hb d_ruleOfNumbers_185 (by decide) ?_
        exact X _ () H locs 0 0 189 ls heq hW d_ruleOfNumbers_189 rfl (Nat.le_of_ble_eq_true rfl) (Nat.le_of_ble_eq_true rfl)
  have K140 : ∀ (H : Heap) (locs : List Loc) (ls : Array Slot), mm_ruleOfNumbers_140 x0 x1 = tgt → gk_W D vwCl (gk_T cI cL) s A H locs [] → lv_has ls 2 [(0, .int x0), (1, .int x1)] → W p l e rm_ruleOfNumbers s m [.int x0, .int x1].toArray below meth c H locs 0 0 Q (F0 m 140 ls []) := by
    intro  H locs ls heq hW hl
    rw [mm_ruleOfNumbers_140] at heq
    refine lv_iload_n hx hb d_ruleOfNumbers_140 rfl (lv_at hl 0 rfl) ?_
    refine lv_ldc2 (v := 50331648) hx hb hown (hts _ w_12) d_ruleOfNumbers_141 ?_
    refine gk_goR hW [] rfl (va_runS (As := [.int x0, .long 50331648]) (rest := []) ⟨hx, hb, hml, hown, hts⟩ (c_isIn l D cI cL x0 50331648 _) (gk_cwS hts w_5 w_6 w_3 k_isIn rfl e_isIn rfl rfl ⟨Nat.le_of_ble_eq_true rfl, Nat.le_of_ble_eq_true rfl⟩) (gk_pre hW [] rfl rfl) rfl rfl hl.1 rfl (lv_room (Nat.le_of_ble_eq_true rfl)) d_ruleOfNumbers_144 ⟨Nat.le_of_ble_eq_true rfl, Nat.le_of_ble_eq_true rfl⟩) (fun H locs hW => ?_)
    refine lv_if_eq (tgt := 166) hx hb d_ruleOfNumbers_147 (by decide) (fun c_3 => ?_) (fun c_3 => ?_)
    · rw [if_pos c_3] at heq
      exact K166  H locs ls heq hW (lv_sub hl [0, 1] rfl)
    · rw [if_neg c_3] at heq
      refine lv_iload_n hx hb d_ruleOfNumbers_150 rfl (lv_at hl 1 rfl) ?_
      refine lv_bipush (v := 20) hx hb d_ruleOfNumbers_151 (by decide) ?_
      refine lv_icmp_eq (tgt := 162) hx hb d_ruleOfNumbers_153 (by decide) (fun c_4 => ?_) (fun c_4 => ?_)
      · rw [if_pos c_4] at heq
        refine lv_sipush (v := 250) hx hb d_ruleOfNumbers_162 (by decide) ?_
        exact X _ () H locs 0 0 165 ls heq hW d_ruleOfNumbers_165 rfl (Nat.le_of_ble_eq_true rfl) (Nat.le_of_ble_eq_true rfl)
      · rw [if_neg c_4] at heq
        refine lv_iload_n hx hb d_ruleOfNumbers_156 rfl (lv_at hl 1 rfl) ?_
        refine lv_bipush (v := 23) hx hb d_ruleOfNumbers_157 (by decide) ?_
        refine lv_icmp_ne (tgt := 166) hx hb d_ruleOfNumbers_159 (by decide) (fun c_5 => ?_) (fun c_5 => ?_)
        · rw [if_neg c_5] at heq
          exact K166  H locs ls heq hW (lv_sub hl [0, 1] rfl)
        · rw [if_pos c_5] at heq
          refine lv_sipush (v := 250) hx hb d_ruleOfNumbers_162 (by decide) ?_
          exact X _ () H locs 0 0 165 ls heq hW d_ruleOfNumbers_165 rfl (Nat.le_of_ble_eq_true rfl) (Nat.le_of_ble_eq_true rfl)
  have K116 : ∀ (H : Heap) (locs : List Loc) (ls : Array Slot), mm_ruleOfNumbers_116 x0 x1 = tgt → gk_W D vwCl (gk_T cI cL) s A H locs [] → lv_has ls 2 [(0, .int x0), (1, .int x1)] → W p l e rm_ruleOfNumbers s m [.int x0, .int x1].toArray below meth c H locs 0 0 Q (F0 m 116 ls []) := by
    intro  H locs ls heq hW hl
    rw [mm_ruleOfNumbers_116] at heq
    refine lv_iload_n hx hb d_ruleOfNumbers_116 rfl (lv_at hl 0 rfl) ?_
    refine lv_ldc2 (v := 8486912) hx hb hown (hts _ w_13) d_ruleOfNumbers_117 ?_
    refine gk_goR hW [] rfl (va_runS (As := [.int x0, .long 8486912]) (rest := []) ⟨hx, hb, hml, hown, hts⟩ (c_isIn l D cI cL x0 8486912 _) (gk_cwS hts w_5 w_6 w_3 k_isIn rfl e_isIn rfl rfl ⟨Nat.le_of_ble_eq_true rfl, Nat.le_of_ble_eq_true rfl⟩) (gk_pre hW [] rfl rfl) rfl rfl hl.1 rfl (lv_room (Nat.le_of_ble_eq_true rfl)) d_ruleOfNumbers_120 ⟨Nat.le_of_ble_eq_true rfl, Nat.le_of_ble_eq_true rfl⟩) (fun H locs hW => ?_)
    refine lv_if_eq (tgt := 140) hx hb d_ruleOfNumbers_123 (by decide) (fun c_6 => ?_) (fun c_6 => ?_)
    · rw [if_pos c_6] at heq
      exact K140  H locs ls heq hW (lv_sub hl [0, 1] rfl)
    · rw [if_neg c_6] at heq
      refine lv_iload_n hx hb d_ruleOfNumbers_126 rfl (lv_at hl 1 rfl) ?_
      refine lv_ldc2 (v := 50331648) hx hb hown (hts _ w_12) d_ruleOfNumbers_127 ?_
      refine gk_goR hW [] rfl (va_runS (As := [.int x1, .long 50331648]) (rest := []) ⟨hx, hb, hml, hown, hts⟩ (c_isIn l D cI cL x1 50331648 _) (gk_cwS hts w_5 w_6 w_3 k_isIn rfl e_isIn rfl rfl ⟨Nat.le_of_ble_eq_true rfl, Nat.le_of_ble_eq_true rfl⟩) (gk_pre hW [] rfl rfl) rfl rfl hl.1 rfl (lv_room (Nat.le_of_ble_eq_true rfl)) d_ruleOfNumbers_130 ⟨Nat.le_of_ble_eq_true rfl, Nat.le_of_ble_eq_true rfl⟩) (fun H locs hW => ?_)
      refine lv_if_eq (tgt := 140) hx hb d_ruleOfNumbers_133 (by decide) (fun c_7 => ?_) (fun c_7 => ?_)
      · rw [if_pos c_7] at heq
        exact K140  H locs ls heq hW (lv_sub hl [0, 1] rfl)
      · rw [if_neg c_7] at heq
        refine lv_sipush (v := 250) hx hb d_ruleOfNumbers_136 (by decide) ?_
        exact X _ () H locs 0 0 139 ls heq hW d_ruleOfNumbers_139 rfl (Nat.le_of_ble_eq_true rfl) (Nat.le_of_ble_eq_true rfl)
  have K92 : ∀ (H : Heap) (locs : List Loc) (ls : Array Slot), mm_ruleOfNumbers_92 x0 x1 = tgt → gk_W D vwCl (gk_T cI cL) s A H locs [] → lv_has ls 2 [(0, .int x0), (1, .int x1)] → W p l e rm_ruleOfNumbers s m [.int x0, .int x1].toArray below meth c H locs 0 0 Q (F0 m 92 ls []) := by
    intro  H locs ls heq hW hl
    rw [mm_ruleOfNumbers_92] at heq
    refine lv_iload_n hx hb d_ruleOfNumbers_92 rfl (lv_at hl 0 rfl) ?_
    refine lv_ldc2 (v := 402653184) hx hb hown (hts _ w_10) d_ruleOfNumbers_93 ?_
    refine gk_goR hW [] rfl (va_runS (As := [.int x0, .long 402653184]) (rest := []) ⟨hx, hb, hml, hown, hts⟩ (c_isIn l D cI cL x0 402653184 _) (gk_cwS hts w_5 w_6 w_3 k_isIn rfl e_isIn rfl rfl ⟨Nat.le_of_ble_eq_true rfl, Nat.le_of_ble_eq_true rfl⟩) (gk_pre hW [] rfl rfl) rfl rfl hl.1 rfl (lv_room (Nat.le_of_ble_eq_true rfl)) d_ruleOfNumbers_96 ⟨Nat.le_of_ble_eq_true rfl, Nat.le_of_ble_eq_true rfl⟩) (fun H locs hW => ?_)
    refine lv_if_eq (tgt := 116) hx hb d_ruleOfNumbers_99 (by decide) (fun c_8 => ?_) (fun c_8 => ?_)
    · rw [if_pos c_8] at heq
      exact K116  H locs ls heq hW (lv_sub hl [0, 1] rfl)
    · rw [if_neg c_8] at heq
      refine lv_iload_n hx hb d_ruleOfNumbers_102 rfl (lv_at hl 1 rfl) ?_
      refine lv_ldc2 (v := 50331648) hx hb hown (hts _ w_12) d_ruleOfNumbers_103 ?_
      refine gk_goR hW [] rfl (va_runS (As := [.int x1, .long 50331648]) (rest := []) ⟨hx, hb, hml, hown, hts⟩ (c_isIn l D cI cL x1 50331648 _) (gk_cwS hts w_5 w_6 w_3 k_isIn rfl e_isIn rfl rfl ⟨Nat.le_of_ble_eq_true rfl, Nat.le_of_ble_eq_true rfl⟩) (gk_pre hW [] rfl rfl) rfl rfl hl.1 rfl (lv_room (Nat.le_of_ble_eq_true rfl)) d_ruleOfNumbers_106 ⟨Nat.le_of_ble_eq_true rfl, Nat.le_of_ble_eq_true rfl⟩) (fun H locs hW => ?_)
      refine lv_if_eq (tgt := 116) hx hb d_ruleOfNumbers_109 (by decide) (fun c_9 => ?_) (fun c_9 => ?_)
      · rw [if_pos c_9] at heq
        exact K116  H locs ls heq hW (lv_sub hl [0, 1] rfl)
      · rw [if_neg c_9] at heq
        refine lv_sipush (v := 240) hx hb d_ruleOfNumbers_112 (by decide) ?_
        exact X _ () H locs 0 0 115 ls heq hW d_ruleOfNumbers_115 rfl (Nat.le_of_ble_eq_true rfl) (Nat.le_of_ble_eq_true rfl)
  have K72 : ∀ (H : Heap) (locs : List Loc) (ls : Array Slot), mm_ruleOfNumbers_72 x0 x1 = tgt → gk_W D vwCl (gk_T cI cL) s A H locs [] → lv_has ls 2 [(0, .int x0), (1, .int x1)] → W p l e rm_ruleOfNumbers s m [.int x0, .int x1].toArray below meth c H locs 0 0 Q (F0 m 72 ls []) := by
    intro  H locs ls heq hW hl
    rw [mm_ruleOfNumbers_72] at heq
    refine lv_iload_n hx hb d_ruleOfNumbers_72 rfl (lv_at hl 0 rfl) ?_
    refine lv_ldc2 (v := 50331648) hx hb hown (hts _ w_12) d_ruleOfNumbers_73 ?_
    refine gk_goR hW [] rfl (va_runS (As := [.int x0, .long 50331648]) (rest := []) ⟨hx, hb, hml, hown, hts⟩ (c_isIn l D cI cL x0 50331648 _) (gk_cwS hts w_5 w_6 w_3 k_isIn rfl e_isIn rfl rfl ⟨Nat.le_of_ble_eq_true rfl, Nat.le_of_ble_eq_true rfl⟩) (gk_pre hW [] rfl rfl) rfl rfl hl.1 rfl (lv_room (Nat.le_of_ble_eq_true rfl)) d_ruleOfNumbers_76 ⟨Nat.le_of_ble_eq_true rfl, Nat.le_of_ble_eq_true rfl⟩) (fun H locs hW => ?_)
    refine lv_if_eq (tgt := 92) hx hb d_ruleOfNumbers_79 (by decide) (fun c_10 => ?_) (fun c_10 => ?_)
    · rw [if_pos c_10] at heq
      exact K92  H locs ls heq hW (lv_sub hl [0, 1] rfl)
    · rw [if_neg c_10] at heq
      refine lv_iload_n hx hb d_ruleOfNumbers_82 rfl (lv_at hl 1 rfl) ?_
      refine lv_ldc2 (v := 402653184) hx hb hown (hts _ w_10) d_ruleOfNumbers_83 ?_
      refine gk_goR hW [] rfl (va_runS (As := [.int x1, .long 402653184]) (rest := []) ⟨hx, hb, hml, hown, hts⟩ (c_isIn l D cI cL x1 402653184 _) (gk_cwS hts w_5 w_6 w_3 k_isIn rfl e_isIn rfl rfl ⟨Nat.le_of_ble_eq_true rfl, Nat.le_of_ble_eq_true rfl⟩) (gk_pre hW [] rfl rfl) rfl rfl hl.1 rfl (lv_room (Nat.le_of_ble_eq_true rfl)) d_ruleOfNumbers_86 ⟨Nat.le_of_ble_eq_true rfl, Nat.le_of_ble_eq_true rfl⟩) (fun H locs hW => ?_)
      refine lv_if_ne (tgt := 112) hx hb d_ruleOfNumbers_89 (by decide) (fun c_11 => ?_) (fun c_11 => ?_)
      · rw [if_neg c_11] at heq
        refine lv_sipush (v := 240) hx hb d_ruleOfNumbers_112 (by decide) ?_
        exact X _ () H locs 0 0 115 ls heq hW d_ruleOfNumbers_115 rfl (Nat.le_of_ble_eq_true rfl) (Nat.le_of_ble_eq_true rfl)
      · rw [if_pos c_11] at heq
        exact K92  H locs ls heq hW (lv_sub hl [0, 1] rfl)
  have K52 : ∀ (H : Heap) (locs : List Loc) (ls : Array Slot), mm_ruleOfNumbers_52 x0 x1 = tgt → gk_W D vwCl (gk_T cI cL) s A H locs [] → lv_has ls 2 [(0, .int x0), (1, .int x1)] → W p l e rm_ruleOfNumbers s m [.int x0, .int x1].toArray below meth c H locs 0 0 Q (F0 m 52 ls []) := by
    intro  H locs ls heq hW hl
    rw [mm_ruleOfNumbers_52] at heq
    refine lv_iload_n hx hb d_ruleOfNumbers_52 rfl (lv_at hl 0 rfl) ?_
    refine lv_ldc2 (v := 3758096384) hx hb hown (hts _ w_11) d_ruleOfNumbers_53 ?_
    refine gk_goR hW [] rfl (va_runS (As := [.int x0, .long 3758096384]) (rest := []) ⟨hx, hb, hml, hown, hts⟩ (c_isIn l D cI cL x0 3758096384 _) (gk_cwS hts w_5 w_6 w_3 k_isIn rfl e_isIn rfl rfl ⟨Nat.le_of_ble_eq_true rfl, Nat.le_of_ble_eq_true rfl⟩) (gk_pre hW [] rfl rfl) rfl rfl hl.1 rfl (lv_room (Nat.le_of_ble_eq_true rfl)) d_ruleOfNumbers_56 ⟨Nat.le_of_ble_eq_true rfl, Nat.le_of_ble_eq_true rfl⟩) (fun H locs hW => ?_)
    refine lv_if_eq (tgt := 72) hx hb d_ruleOfNumbers_59 (by decide) (fun c_12 => ?_) (fun c_12 => ?_)
    · rw [if_pos c_12] at heq
      exact K72  H locs ls heq hW (lv_sub hl [0, 1] rfl)
    · rw [if_neg c_12] at heq
      refine lv_iload_n hx hb d_ruleOfNumbers_62 rfl (lv_at hl 1 rfl) ?_
      refine lv_bipush (v := 24) hx hb d_ruleOfNumbers_63 (by decide) ?_
      refine lv_icmp_ne (tgt := 72) hx hb d_ruleOfNumbers_65 (by decide) (fun c_13 => ?_) (fun c_13 => ?_)
      · rw [if_neg c_13] at heq
        exact K72  H locs ls heq hW (lv_sub hl [0, 1] rfl)
      · rw [if_pos c_13] at heq
        refine lv_sipush (v := 231) hx hb d_ruleOfNumbers_68 (by decide) ?_
        exact X _ () H locs 0 0 71 ls heq hW d_ruleOfNumbers_71 rfl (Nat.le_of_ble_eq_true rfl) (Nat.le_of_ble_eq_true rfl)
  have K36 : ∀ (H : Heap) (locs : List Loc) (ls : Array Slot), mm_ruleOfNumbers_36 x0 x1 = tgt → gk_W D vwCl (gk_T cI cL) s A H locs [] → lv_has ls 2 [(0, .int x0), (1, .int x1)] → W p l e rm_ruleOfNumbers s m [.int x0, .int x1].toArray below meth c H locs 0 0 Q (F0 m 36 ls []) := by
    intro  H locs ls heq hW hl
    rw [mm_ruleOfNumbers_36] at heq
    refine lv_iload_n hx hb d_ruleOfNumbers_36 rfl (lv_at hl 0 rfl) ?_
    refine lv_bipush (v := 25) hx hb d_ruleOfNumbers_37 (by decide) ?_
    refine lv_icmp_ne (tgt := 52) hx hb d_ruleOfNumbers_39 (by decide) (fun c_14 => ?_) (fun c_14 => ?_)
    · rw [if_neg c_14] at heq
      exact K52  H locs ls heq hW (lv_sub hl [0, 1] rfl)
    · rw [if_pos c_14] at heq
      refine lv_iload_n hx hb d_ruleOfNumbers_42 rfl (lv_at hl 1 rfl) ?_
      refine lv_ldc2 (v := 3758096384) hx hb hown (hts _ w_11) d_ruleOfNumbers_43 ?_
      refine gk_goR hW [] rfl (va_runS (As := [.int x1, .long 3758096384]) (rest := []) ⟨hx, hb, hml, hown, hts⟩ (c_isIn l D cI cL x1 3758096384 _) (gk_cwS hts w_5 w_6 w_3 k_isIn rfl e_isIn rfl rfl ⟨Nat.le_of_ble_eq_true rfl, Nat.le_of_ble_eq_true rfl⟩) (gk_pre hW [] rfl rfl) rfl rfl hl.1 rfl (lv_room (Nat.le_of_ble_eq_true rfl)) d_ruleOfNumbers_46 ⟨Nat.le_of_ble_eq_true rfl, Nat.le_of_ble_eq_true rfl⟩) (fun H locs hW => ?_)
      refine lv_if_ne (tgt := 68) hx hb d_ruleOfNumbers_49 (by decide) (fun c_15 => ?_) (fun c_15 => ?_)
      · rw [if_neg c_15] at heq
        refine lv_sipush (v := 231) hx hb d_ruleOfNumbers_68 (by decide) ?_
        exact X _ () H locs 0 0 71 ls heq hW d_ruleOfNumbers_71 rfl (Nat.le_of_ble_eq_true rfl) (Nat.le_of_ble_eq_true rfl)
      · rw [if_pos c_15] at heq
        exact K52  H locs ls heq hW (lv_sub hl [0, 1] rfl)
  have K16 : ∀ (H : Heap) (locs : List Loc) (ls : Array Slot), mm_ruleOfNumbers_16 x0 x1 = tgt → gk_W D vwCl (gk_T cI cL) s A H locs [] → lv_has ls 2 [(0, .int x0), (1, .int x1)] → W p l e rm_ruleOfNumbers s m [.int x0, .int x1].toArray below meth c H locs 0 0 Q (F0 m 16 ls []) := by
    intro  H locs ls heq hW hl
    rw [mm_ruleOfNumbers_16] at heq
    refine lv_iload_n hx hb d_ruleOfNumbers_16 rfl (lv_at hl 0 rfl) ?_
    refine lv_bipush (v := 23) hx hb d_ruleOfNumbers_17 (by decide) ?_
    refine lv_icmp_ne (tgt := 36) hx hb d_ruleOfNumbers_19 (by decide) (fun c_16 => ?_) (fun c_16 => ?_)
    · rw [if_neg c_16] at heq
      exact K36  H locs ls heq hW (lv_sub hl [0, 1] rfl)
    · rw [if_pos c_16] at heq
      refine lv_iload_n hx hb d_ruleOfNumbers_22 rfl (lv_at hl 1 rfl) ?_
      refine lv_ldc2 (v := 402653184) hx hb hown (hts _ w_10) d_ruleOfNumbers_23 ?_
      refine gk_goR hW [] rfl (va_runS (As := [.int x1, .long 402653184]) (rest := []) ⟨hx, hb, hml, hown, hts⟩ (c_isIn l D cI cL x1 402653184 _) (gk_cwS hts w_5 w_6 w_3 k_isIn rfl e_isIn rfl rfl ⟨Nat.le_of_ble_eq_true rfl, Nat.le_of_ble_eq_true rfl⟩) (gk_pre hW [] rfl rfl) rfl rfl hl.1 rfl (lv_room (Nat.le_of_ble_eq_true rfl)) d_ruleOfNumbers_26 ⟨Nat.le_of_ble_eq_true rfl, Nat.le_of_ble_eq_true rfl⟩) (fun H locs hW => ?_)
      refine lv_if_eq (tgt := 36) hx hb d_ruleOfNumbers_29 (by decide) (fun c_17 => ?_) (fun c_17 => ?_)
      · rw [if_pos c_17] at heq
        exact K36  H locs ls heq hW (lv_sub hl [0, 1] rfl)
      · rw [if_neg c_17] at heq
        refine lv_sipush (v := 230) hx hb d_ruleOfNumbers_32 (by decide) ?_
        exact X _ () H locs 0 0 35 ls heq hW d_ruleOfNumbers_35 rfl (Nat.le_of_ble_eq_true rfl) (Nat.le_of_ble_eq_true rfl)
  refine lv_iload_n hx hb d_ruleOfNumbers_0 rfl (lv_at hl 0 rfl) ?_
  refine lv_ldc2 (v := 402653184) hx hb hown (hts _ w_10) d_ruleOfNumbers_1 ?_
  refine gk_goR hW [] rfl (va_runS (As := [.int x0, .long 402653184]) (rest := []) ⟨hx, hb, hml, hown, hts⟩ (c_isIn l D cI cL x0 402653184 _) (gk_cwS hts w_5 w_6 w_3 k_isIn rfl e_isIn rfl rfl ⟨Nat.le_of_ble_eq_true rfl, Nat.le_of_ble_eq_true rfl⟩) (gk_pre hW [] rfl rfl) rfl rfl hl.1 rfl (lv_room (Nat.le_of_ble_eq_true rfl)) d_ruleOfNumbers_4 ⟨Nat.le_of_ble_eq_true rfl, Nat.le_of_ble_eq_true rfl⟩) (fun H locs hW => ?_)
  refine lv_if_eq (tgt := 16) hx hb d_ruleOfNumbers_7 (by decide) (fun c_18 => ?_) (fun c_18 => ?_)
  · rw [if_pos c_18] at heq
    exact K16  H locs ls heq hW (lv_sub hl [0, 1] rfl)
  · rw [if_neg c_18] at heq
    refine lv_iload_n hx hb d_ruleOfNumbers_10 rfl (lv_at hl 1 rfl) ?_
    refine lv_bipush (v := 23) hx hb d_ruleOfNumbers_11 (by decide) ?_
    refine lv_icmp_eq (tgt := 32) hx hb d_ruleOfNumbers_13 (by decide) (fun c_19 => ?_) (fun c_19 => ?_)
    · rw [if_pos c_19] at heq
      refine lv_sipush (v := 230) hx hb d_ruleOfNumbers_32 (by decide) ?_
      exact X _ () H locs 0 0 35 ls heq hW d_ruleOfNumbers_35 rfl (Nat.le_of_ble_eq_true rfl) (Nat.le_of_ble_eq_true rfl)
    · rw [if_neg c_19] at heq
      exact K16  H locs ls heq hW (lv_sub hl [0, 1] rfl)
def mm_ruleOfWords_144 (x0 x1 : Int32) : Int32 := if x0 = 22 then (if (mm_isIn x1 402653184) = 0 then 0 else 290) else 0
def mm_ruleOfWords_120 (x0 x1 : Int32) : Int32 := if (mm_isIn x0 402653184) = 0 then (mm_ruleOfWords_144 x0 x1) else (if (mm_isIn x1 402653184) = 0 then (mm_ruleOfWords_144 x0 x1) else 280)
def mm_ruleOfWords_100 (x0 x1 : Int32) : Int32 := if x0 = 25 then (if (mm_isIn x1 133143986176) = 0 then (mm_ruleOfWords_120 x0 x1) else 270) else (mm_ruleOfWords_120 x0 x1)
def mm_ruleOfWords_84 (x0 x1 : Int32) : Int32 := if (mm_isIn x0 133143986176) = 0 then (mm_ruleOfWords_100 x0 x1) else (if x1 = 24 then 270 else (mm_ruleOfWords_100 x0 x1))
def mm_ruleOfWords_74 (x0 x1 : Int32) : Int32 := if x1 = 36 then 260 else (mm_ruleOfWords_84 x0 x1)
def mm_ruleOfWords_62 (x0 x1 : Int32) : Int32 := if x0 = 36 then (mm_ruleOfWords_74 x0 x1) else (if x0 = 33 then (mm_ruleOfWords_74 x0 x1) else (mm_ruleOfWords_84 x0 x1))
def mm_ruleOfWords_46 (x0 x1 : Int32) : Int32 := if x1 = 35 then 260 else (if x1 = 36 then 260 else (mm_ruleOfWords_62 x0 x1))
def mm_ruleOfWords_34 (x0 x1 : Int32) : Int32 := if x0 = 35 then (mm_ruleOfWords_46 x0 x1) else (if x0 = 32 then (mm_ruleOfWords_46 x0 x1) else (mm_ruleOfWords_62 x0 x1))
def mm_ruleOfWords (x0 x1 : Int32) : Int32 := if x0 = 34 then (if x1 = 34 then 260 else (if x1 = 35 then 260 else (if x1 = 32 then 260 else (if x1 = 33 then 260 else (mm_ruleOfWords_34 x0 x1))))) else (mm_ruleOfWords_34 x0 x1)
def rm_ruleOfWords : Room := { frames := 1, cells := 0, slots := 0, locals := 22 }
set_option maxHeartbeats 4000000 in
set_option maxRecDepth 100000 in
theorem c_ruleOfWords (l : Launch) (D : va_G) (cI cL : ClassId) (x0 x1 : Int32) : gk_I l y_ruleOfWords (.code y_ruleOfWords b_ruleOfWords 2 (some .int) :: wA) rm_ruleOfWords D vwCl (gk_T cI cL) [.int x0, .int x1] [] (fun (r : Int32) (_ : Unit) => r = mm_ruleOfWords x0 x1) (fun (_ : Unit) => []) 0 0 := by
  refine gk_I.of (by decide) (Nat.le_of_ble_eq_true rfl) ?_
  intro p e s m below meth c A ls Q H locs hx hb hml hown hts hW hl X
  have hl : lv_has ls 2 [(0, .int x0), (1, .int x1)] := hl
  obtain ⟨tgt, heq⟩ : ∃ t, mm_ruleOfWords x0 x1 = t := ⟨_, rfl⟩
  rw [heq] at X
  rw [mm_ruleOfWords] at heq
  have K144 : ∀ (H : Heap) (locs : List Loc) (ls : Array Slot), mm_ruleOfWords_144 x0 x1 = tgt → gk_W D vwCl (gk_T cI cL) s A H locs [] → lv_has ls 2 [(0, .int x0), (1, .int x1)] → W p l e rm_ruleOfWords s m [.int x0, .int x1].toArray below meth c H locs 0 0 Q (F0 m 144 ls []) := by
    intro  H locs ls heq hW hl
    rw [mm_ruleOfWords_144] at heq
    refine lv_iload_n hx hb d_ruleOfWords_144 rfl (lv_at hl 0 rfl) ?_
    refine lv_bipush (v := 22) hx hb d_ruleOfWords_145 (by decide) ?_
    refine lv_icmp_ne (tgt := 166) hx hb d_ruleOfWords_147 (by decide) (fun c_1 => ?_) (fun c_1 => ?_)
    · rw [if_neg c_1] at heq
      refine lv_iconst (v := 0) hx hb d_ruleOfWords_166 (by decide) ?_
      exact X _ () H locs 0 0 167 ls heq hW d_ruleOfWords_167 rfl (Nat.le_of_ble_eq_true rfl) (Nat.le_of_ble_eq_true rfl)
    · rw [if_pos c_1] at heq
      refine lv_iload_n hx hb d_ruleOfWords_150 rfl (lv_at hl 1 rfl) ?_
      refine lv_ldc2 (v := 402653184) hx hb hown (hts _ w_10) d_ruleOfWords_151 ?_
      refine gk_goR hW [] rfl (va_runS (As := [.int x1, .long 402653184]) (rest := []) ⟨hx, hb, hml, hown, hts⟩ (c_isIn l D cI cL x1 402653184 _) (gk_cwS hts w_5 w_6 w_3 k_isIn rfl e_isIn rfl rfl ⟨Nat.le_of_ble_eq_true rfl, Nat.le_of_ble_eq_true rfl⟩) (gk_pre hW [] rfl rfl) rfl rfl hl.1 rfl (lv_room (Nat.le_of_ble_eq_true rfl)) d_ruleOfWords_154 ⟨Nat.le_of_ble_eq_true rfl, Nat.le_of_ble_eq_true rfl⟩) (fun H locs hW => ?_)
      refine lv_if_eq (tgt := 166) hx hb d_ruleOfWords_157 (by decide) (fun c_2 => ?_) (fun c_2 => ?_)
      · rw [if_pos c_2] at heq
        refine lv_iconst (v := 0) hx hb d_ruleOfWords_166 (by decide) ?_
        exact X _ () H locs 0 0 167 ls heq hW d_ruleOfWords_167 rfl (Nat.le_of_ble_eq_true rfl) (Nat.le_of_ble_eq_true rfl)
      · rw [if_neg c_2] at heq
        refine lv_sipush (v := 290) hx hb d_ruleOfWords_160 (by decide) ?_
        refine lv_goto (tgt := 167) hx hb d_ruleOfWords_163 (by decide) ?_
        exact X _ () H locs 0 0 167 ls heq hW d_ruleOfWords_167 rfl (Nat.le_of_ble_eq_true rfl) (Nat.le_of_ble_eq_true rfl)
  have K120 : ∀ (H : Heap) (locs : List Loc) (ls : Array Slot), mm_ruleOfWords_120 x0 x1 = tgt → gk_W D vwCl (gk_T cI cL) s A H locs [] → lv_has ls 2 [(0, .int x0), (1, .int x1)] → W p l e rm_ruleOfWords s m [.int x0, .int x1].toArray below meth c H locs 0 0 Q (F0 m 120 ls []) := by
    intro  H locs ls heq hW hl
    rw [mm_ruleOfWords_120] at heq
    refine lv_iload_n hx hb d_ruleOfWords_120 rfl (lv_at hl 0 rfl) ?_
    refine lv_ldc2 (v := 402653184) hx hb hown (hts _ w_10) d_ruleOfWords_121 ?_
    refine gk_goR hW [] rfl (va_runS (As := [.int x0, .long 402653184]) (rest := []) ⟨hx, hb, hml, hown, hts⟩ (c_isIn l D cI cL x0 402653184 _) (gk_cwS hts w_5 w_6 w_3 k_isIn rfl e_isIn rfl rfl ⟨Nat.le_of_ble_eq_true rfl, Nat.le_of_ble_eq_true rfl⟩) (gk_pre hW [] rfl rfl) rfl rfl hl.1 rfl (lv_room (Nat.le_of_ble_eq_true rfl)) d_ruleOfWords_124 ⟨Nat.le_of_ble_eq_true rfl, Nat.le_of_ble_eq_true rfl⟩) (fun H locs hW => ?_)
    refine lv_if_eq (tgt := 144) hx hb d_ruleOfWords_127 (by decide) (fun c_3 => ?_) (fun c_3 => ?_)
    · rw [if_pos c_3] at heq
      exact K144  H locs ls heq hW (lv_sub hl [0, 1] rfl)
    · rw [if_neg c_3] at heq
      refine lv_iload_n hx hb d_ruleOfWords_130 rfl (lv_at hl 1 rfl) ?_
      refine lv_ldc2 (v := 402653184) hx hb hown (hts _ w_10) d_ruleOfWords_131 ?_
      refine gk_goR hW [] rfl (va_runS (As := [.int x1, .long 402653184]) (rest := []) ⟨hx, hb, hml, hown, hts⟩ (c_isIn l D cI cL x1 402653184 _) (gk_cwS hts w_5 w_6 w_3 k_isIn rfl e_isIn rfl rfl ⟨Nat.le_of_ble_eq_true rfl, Nat.le_of_ble_eq_true rfl⟩) (gk_pre hW [] rfl rfl) rfl rfl hl.1 rfl (lv_room (Nat.le_of_ble_eq_true rfl)) d_ruleOfWords_134 ⟨Nat.le_of_ble_eq_true rfl, Nat.le_of_ble_eq_true rfl⟩) (fun H locs hW => ?_)
      refine lv_if_eq (tgt := 144) hx hb d_ruleOfWords_137 (by decide) (fun c_4 => ?_) (fun c_4 => ?_)
      · rw [if_pos c_4] at heq
        exact K144  H locs ls heq hW (lv_sub hl [0, 1] rfl)
      · rw [if_neg c_4] at heq
        refine lv_sipush (v := 280) hx hb d_ruleOfWords_140 (by decide) ?_
        exact X _ () H locs 0 0 143 ls heq hW d_ruleOfWords_143 rfl (Nat.le_of_ble_eq_true rfl) (Nat.le_of_ble_eq_true rfl)
  have K100 : ∀ (H : Heap) (locs : List Loc) (ls : Array Slot), mm_ruleOfWords_100 x0 x1 = tgt → gk_W D vwCl (gk_T cI cL) s A H locs [] → lv_has ls 2 [(0, .int x0), (1, .int x1)] → W p l e rm_ruleOfWords s m [.int x0, .int x1].toArray below meth c H locs 0 0 Q (F0 m 100 ls []) := by
    intro  H locs ls heq hW hl
    rw [mm_ruleOfWords_100] at heq
    refine lv_iload_n hx hb d_ruleOfWords_100 rfl (lv_at hl 0 rfl) ?_
    refine lv_bipush (v := 25) hx hb d_ruleOfWords_101 (by decide) ?_
    refine lv_icmp_ne (tgt := 120) hx hb d_ruleOfWords_103 (by decide) (fun c_5 => ?_) (fun c_5 => ?_)
    · rw [if_neg c_5] at heq
      exact K120  H locs ls heq hW (lv_sub hl [0, 1] rfl)
    · rw [if_pos c_5] at heq
      refine lv_iload_n hx hb d_ruleOfWords_106 rfl (lv_at hl 1 rfl) ?_
      refine lv_ldc2 (v := 133143986176) hx hb hown (hts _ w_15) d_ruleOfWords_107 ?_
      refine gk_goR hW [] rfl (va_runS (As := [.int x1, .long 133143986176]) (rest := []) ⟨hx, hb, hml, hown, hts⟩ (c_isIn l D cI cL x1 133143986176 _) (gk_cwS hts w_5 w_6 w_3 k_isIn rfl e_isIn rfl rfl ⟨Nat.le_of_ble_eq_true rfl, Nat.le_of_ble_eq_true rfl⟩) (gk_pre hW [] rfl rfl) rfl rfl hl.1 rfl (lv_room (Nat.le_of_ble_eq_true rfl)) d_ruleOfWords_110 ⟨Nat.le_of_ble_eq_true rfl, Nat.le_of_ble_eq_true rfl⟩) (fun H locs hW => ?_)
      refine lv_if_eq (tgt := 120) hx hb d_ruleOfWords_113 (by decide) (fun c_6 => ?_) (fun c_6 => ?_)
      · rw [if_pos c_6] at heq
        exact K120  H locs ls heq hW (lv_sub hl [0, 1] rfl)
      · rw [if_neg c_6] at heq
        refine lv_sipush (v := 270) hx hb d_ruleOfWords_116 (by decide) ?_
        exact X _ () H locs 0 0 119 ls heq hW d_ruleOfWords_119 rfl (Nat.le_of_ble_eq_true rfl) (Nat.le_of_ble_eq_true rfl)
  have K84 : ∀ (H : Heap) (locs : List Loc) (ls : Array Slot), mm_ruleOfWords_84 x0 x1 = tgt → gk_W D vwCl (gk_T cI cL) s A H locs [] → lv_has ls 2 [(0, .int x0), (1, .int x1)] → W p l e rm_ruleOfWords s m [.int x0, .int x1].toArray below meth c H locs 0 0 Q (F0 m 84 ls []) := by
    intro  H locs ls heq hW hl
    rw [mm_ruleOfWords_84] at heq
    refine lv_iload_n hx hb d_ruleOfWords_84 rfl (lv_at hl 0 rfl) ?_
    refine lv_ldc2 (v := 133143986176) hx hb hown (hts _ w_15) d_ruleOfWords_85 ?_
    refine gk_goR hW [] rfl (va_runS (As := [.int x0, .long 133143986176]) (rest := []) ⟨hx, hb, hml, hown, hts⟩ (c_isIn l D cI cL x0 133143986176 _) (gk_cwS hts w_5 w_6 w_3 k_isIn rfl e_isIn rfl rfl ⟨Nat.le_of_ble_eq_true rfl, Nat.le_of_ble_eq_true rfl⟩) (gk_pre hW [] rfl rfl) rfl rfl hl.1 rfl (lv_room (Nat.le_of_ble_eq_true rfl)) d_ruleOfWords_88 ⟨Nat.le_of_ble_eq_true rfl, Nat.le_of_ble_eq_true rfl⟩) (fun H locs hW => ?_)
    refine lv_if_eq (tgt := 100) hx hb d_ruleOfWords_91 (by decide) (fun c_7 => ?_) (fun c_7 => ?_)
    · rw [if_pos c_7] at heq
      exact K100  H locs ls heq hW (lv_sub hl [0, 1] rfl)
    · rw [if_neg c_7] at heq
      refine lv_iload_n hx hb d_ruleOfWords_94 rfl (lv_at hl 1 rfl) ?_
      refine lv_bipush (v := 24) hx hb d_ruleOfWords_95 (by decide) ?_
      refine lv_icmp_eq (tgt := 116) hx hb d_ruleOfWords_97 (by decide) (fun c_8 => ?_) (fun c_8 => ?_)
      · rw [if_pos c_8] at heq
        refine lv_sipush (v := 270) hx hb d_ruleOfWords_116 (by decide) ?_
        exact X _ () H locs 0 0 119 ls heq hW d_ruleOfWords_119 rfl (Nat.le_of_ble_eq_true rfl) (Nat.le_of_ble_eq_true rfl)
      · rw [if_neg c_8] at heq
        exact K100  H locs ls heq hW (lv_sub hl [0, 1] rfl)
  have K74 : ∀ (H : Heap) (locs : List Loc) (ls : Array Slot), mm_ruleOfWords_74 x0 x1 = tgt → gk_W D vwCl (gk_T cI cL) s A H locs [] → lv_has ls 2 [(0, .int x0), (1, .int x1)] → W p l e rm_ruleOfWords s m [.int x0, .int x1].toArray below meth c H locs 0 0 Q (F0 m 74 ls []) := by
    intro  H locs ls heq hW hl
    rw [mm_ruleOfWords_74] at heq
    refine lv_iload_n hx hb d_ruleOfWords_74 rfl (lv_at hl 1 rfl) ?_
    refine lv_bipush (v := 36) hx hb d_ruleOfWords_75 (by decide) ?_
    refine lv_icmp_ne (tgt := 84) hx hb d_ruleOfWords_77 (by decide) (fun c_9 => ?_) (fun c_9 => ?_)
    · rw [if_neg c_9] at heq
      exact K84  H locs ls heq hW (lv_sub hl [0, 1] rfl)
    · rw [if_pos c_9] at heq
      refine lv_sipush (v := 260) hx hb d_ruleOfWords_80 (by decide) ?_
      exact X _ () H locs 0 0 83 ls heq hW d_ruleOfWords_83 rfl (Nat.le_of_ble_eq_true rfl) (Nat.le_of_ble_eq_true rfl)
  have K62 : ∀ (H : Heap) (locs : List Loc) (ls : Array Slot), mm_ruleOfWords_62 x0 x1 = tgt → gk_W D vwCl (gk_T cI cL) s A H locs [] → lv_has ls 2 [(0, .int x0), (1, .int x1)] → W p l e rm_ruleOfWords s m [.int x0, .int x1].toArray below meth c H locs 0 0 Q (F0 m 62 ls []) := by
    intro  H locs ls heq hW hl
    rw [mm_ruleOfWords_62] at heq
    refine lv_iload_n hx hb d_ruleOfWords_62 rfl (lv_at hl 0 rfl) ?_
    refine lv_bipush (v := 36) hx hb d_ruleOfWords_63 (by decide) ?_
    refine lv_icmp_eq (tgt := 74) hx hb d_ruleOfWords_65 (by decide) (fun c_10 => ?_) (fun c_10 => ?_)
    · rw [if_pos c_10] at heq
      exact K74  H locs ls heq hW (lv_sub hl [0, 1] rfl)
    · rw [if_neg c_10] at heq
      refine lv_iload_n hx hb d_ruleOfWords_68 rfl (lv_at hl 0 rfl) ?_
      refine lv_bipush (v := 33) hx hb d_ruleOfWords_69 (by decide) ?_
      refine lv_icmp_ne (tgt := 84) hx hb d_ruleOfWords_71 (by decide) (fun c_11 => ?_) (fun c_11 => ?_)
      · rw [if_neg c_11] at heq
        exact K84  H locs ls heq hW (lv_sub hl [0, 1] rfl)
      · rw [if_pos c_11] at heq
        exact K74  H locs ls heq hW (lv_sub hl [0, 1] rfl)
  have K46 : ∀ (H : Heap) (locs : List Loc) (ls : Array Slot), mm_ruleOfWords_46 x0 x1 = tgt → gk_W D vwCl (gk_T cI cL) s A H locs [] → lv_has ls 2 [(0, .int x0), (1, .int x1)] → W p l e rm_ruleOfWords s m [.int x0, .int x1].toArray below meth c H locs 0 0 Q (F0 m 46 ls []) := by
    intro  H locs ls heq hW hl
    rw [mm_ruleOfWords_46] at heq
    refine lv_iload_n hx hb d_ruleOfWords_46 rfl (lv_at hl 1 rfl) ?_
    refine lv_bipush (v := 35) hx hb d_ruleOfWords_47 (by decide) ?_
    refine lv_icmp_eq (tgt := 58) hx hb d_ruleOfWords_49 (by decide) (fun c_12 => ?_) (fun c_12 => ?_)
    · rw [if_pos c_12] at heq
      refine lv_sipush (v := 260) hx hb d_ruleOfWords_58 (by decide) ?_
      exact X _ () H locs 0 0 61 ls heq hW d_ruleOfWords_61 rfl (Nat.le_of_ble_eq_true rfl) (Nat.le_of_ble_eq_true rfl)
    · rw [if_neg c_12] at heq
      refine lv_iload_n hx hb d_ruleOfWords_52 rfl (lv_at hl 1 rfl) ?_
      refine lv_bipush (v := 36) hx hb d_ruleOfWords_53 (by decide) ?_
      refine lv_icmp_ne (tgt := 62) hx hb d_ruleOfWords_55 (by decide) (fun c_13 => ?_) (fun c_13 => ?_)
      · rw [if_neg c_13] at heq
        exact K62  H locs ls heq hW (lv_sub hl [0, 1] rfl)
      · rw [if_pos c_13] at heq
        refine lv_sipush (v := 260) hx hb d_ruleOfWords_58 (by decide) ?_
        exact X _ () H locs 0 0 61 ls heq hW d_ruleOfWords_61 rfl (Nat.le_of_ble_eq_true rfl) (Nat.le_of_ble_eq_true rfl)
  have K34 : ∀ (H : Heap) (locs : List Loc) (ls : Array Slot), mm_ruleOfWords_34 x0 x1 = tgt → gk_W D vwCl (gk_T cI cL) s A H locs [] → lv_has ls 2 [(0, .int x0), (1, .int x1)] → W p l e rm_ruleOfWords s m [.int x0, .int x1].toArray below meth c H locs 0 0 Q (F0 m 34 ls []) := by
    intro  H locs ls heq hW hl
    rw [mm_ruleOfWords_34] at heq
    refine lv_iload_n hx hb d_ruleOfWords_34 rfl (lv_at hl 0 rfl) ?_
    refine lv_bipush (v := 35) hx hb d_ruleOfWords_35 (by decide) ?_
    refine lv_icmp_eq (tgt := 46) hx hb d_ruleOfWords_37 (by decide) (fun c_14 => ?_) (fun c_14 => ?_)
    · rw [if_pos c_14] at heq
      exact K46  H locs ls heq hW (lv_sub hl [0, 1] rfl)
    · rw [if_neg c_14] at heq
      refine lv_iload_n hx hb d_ruleOfWords_40 rfl (lv_at hl 0 rfl) ?_
      refine lv_bipush (v := 32) hx hb d_ruleOfWords_41 (by decide) ?_
      refine lv_icmp_ne (tgt := 62) hx hb d_ruleOfWords_43 (by decide) (fun c_15 => ?_) (fun c_15 => ?_)
      · rw [if_neg c_15] at heq
        exact K62  H locs ls heq hW (lv_sub hl [0, 1] rfl)
      · rw [if_pos c_15] at heq
        exact K46  H locs ls heq hW (lv_sub hl [0, 1] rfl)
  refine lv_iload_n hx hb d_ruleOfWords_0 rfl (lv_at hl 0 rfl) ?_
  refine lv_bipush (v := 34) hx hb d_ruleOfWords_1 (by decide) ?_
  refine lv_icmp_ne (tgt := 34) hx hb d_ruleOfWords_3 (by decide) (fun c_16 => ?_) (fun c_16 => ?_)
  · rw [if_neg c_16] at heq
    exact K34  H locs ls heq hW (lv_sub hl [0, 1] rfl)
  · rw [if_pos c_16] at heq
    refine lv_iload_n hx hb d_ruleOfWords_6 rfl (lv_at hl 1 rfl) ?_
    refine lv_bipush (v := 34) hx hb d_ruleOfWords_7 (by decide) ?_
    refine lv_icmp_eq (tgt := 30) hx hb d_ruleOfWords_9 (by decide) (fun c_17 => ?_) (fun c_17 => ?_)
    · rw [if_pos c_17] at heq
      refine lv_sipush (v := 260) hx hb d_ruleOfWords_30 (by decide) ?_
      exact X _ () H locs 0 0 33 ls heq hW d_ruleOfWords_33 rfl (Nat.le_of_ble_eq_true rfl) (Nat.le_of_ble_eq_true rfl)
    · rw [if_neg c_17] at heq
      refine lv_iload_n hx hb d_ruleOfWords_12 rfl (lv_at hl 1 rfl) ?_
      refine lv_bipush (v := 35) hx hb d_ruleOfWords_13 (by decide) ?_
      refine lv_icmp_eq (tgt := 30) hx hb d_ruleOfWords_15 (by decide) (fun c_18 => ?_) (fun c_18 => ?_)
      · rw [if_pos c_18] at heq
        refine lv_sipush (v := 260) hx hb d_ruleOfWords_30 (by decide) ?_
        exact X _ () H locs 0 0 33 ls heq hW d_ruleOfWords_33 rfl (Nat.le_of_ble_eq_true rfl) (Nat.le_of_ble_eq_true rfl)
      · rw [if_neg c_18] at heq
        refine lv_iload_n hx hb d_ruleOfWords_18 rfl (lv_at hl 1 rfl) ?_
        refine lv_bipush (v := 32) hx hb d_ruleOfWords_19 (by decide) ?_
        refine lv_icmp_eq (tgt := 30) hx hb d_ruleOfWords_21 (by decide) (fun c_19 => ?_) (fun c_19 => ?_)
        · rw [if_pos c_19] at heq
          refine lv_sipush (v := 260) hx hb d_ruleOfWords_30 (by decide) ?_
          exact X _ () H locs 0 0 33 ls heq hW d_ruleOfWords_33 rfl (Nat.le_of_ble_eq_true rfl) (Nat.le_of_ble_eq_true rfl)
        · rw [if_neg c_19] at heq
          refine lv_iload_n hx hb d_ruleOfWords_24 rfl (lv_at hl 1 rfl) ?_
          refine lv_bipush (v := 33) hx hb d_ruleOfWords_25 (by decide) ?_
          refine lv_icmp_ne (tgt := 34) hx hb d_ruleOfWords_27 (by decide) (fun c_20 => ?_) (fun c_20 => ?_)
          · rw [if_neg c_20] at heq
            exact K34  H locs ls heq hW (lv_sub hl [0, 1] rfl)
          · rw [if_pos c_20] at heq
            refine lv_sipush (v := 260) hx hb d_ruleOfWords_30 (by decide) ?_
            exact X _ () H locs 0 0 33 ls heq hW d_ruleOfWords_33 rfl (Nat.le_of_ble_eq_true rfl) (Nat.le_of_ble_eq_true rfl)
end
